/** Promises 1 to 7: a new object, letters and tables, kinds, verbs, dropping and copying. */
public final class TellingTest {
    private static final Due due = new Due("TellingTest");

    public static void main(String[] args) {
        newObject();
        letters();
        tables();
        faultsOfForm();
        faultsOfSense();
        allOrNothing();
        kinds();
        verbs();
        drops();
        copies();
        due.end();
    }

    private static void newObject() {
        RoutesByTries x = new RoutesByTries();
        int[] want = {0, 0, 0, 0, 3, 0, 0};
        for (int i = 0; i < want.length; i++) {
            due.is("new: count(" + i + ")", x.count(i), want[i]);
        }
        due.refusals("new", x, 0, 0, 0, 0, 0, 0);
        for (int router = 0; router < 3; router++) {
            due.is("new: nodes", x.nodes(router), 1);
            due.is("new: kind", x.kind(router, 0, 0), 0);
        }
        due.is("new: match", x.match(0, 0), -9);
        due.is("new: looked", x.looked(340, 3), 1);
        due.is("new: route", x.route(0, 0), -1);
        due.is("new: on", x.on(), -3);
    }

    private static void letters() {
        RoutesByTries x = new RoutesByTries();
        due.is("letter(0)", x.letter(0), 1);
        due.is("letter(255)", x.letter(255), 2);
        due.is("letter(-1)", x.letter(-1), -4);
        due.is("letter(256)", x.letter(256), -6);
        due.is("letter(least)", x.letter(Integer.MIN_VALUE), -4);
        due.is("letter(greatest)", x.letter(Integer.MAX_VALUE), -6);
        for (int i = 3; i <= 96; i++) {
            due.is("letter " + i, x.letter(';'), i);
        }
        due.is("letter 97", x.letter(';'), -6);
        due.is("letter 97, below", x.letter(-1), -4);
        due.is("count(6)", x.count(6), 96);
        due.refusals("letters", x, 0, 0, 0, 3, 0, 3);
        due.is("table of a bad letter", x.table(), -1000);
        due.is("count(6) behind it", x.count(6), 0);
    }

    private static void tables() {
        RoutesByTries x = new RoutesByTries();
        due.is("four", Due.tell(x, "r00/a/<1/>2/:3;r22/*;m02/d;k139;"), 4);
        due.is("letters are no more", x.count(6), 0);
        due.is("came", x.count(0), 3);
        due.is("mounts", x.count(2), 4);
        due.is("kind told", x.kind(1, 3, 9), 39);
        due.is("drop and more", Due.tell(x, "x0;r13;x3;"), 3);
        due.is("there", x.count(1), 6);
        due.is("came, dropped too", x.count(0), 4);
        due.is("only a kind", Due.tell(x, "k250;"), 1);
        due.is("kind told again", x.kind(2, 0, 0), 50);
        due.is("96 letters", Due.tell(new RoutesByTries(), "k000;".repeat(18) + "r00/a;"), 19);
        for (String one : new String[] {"r00;", "r21;", "r02;", "r03;", "m01;", "m12;", "k000;", "k259;"}) {
            due.is(one, Due.tell(new RoutesByTries(), one), 1);
        }
    }

    private static void form(String text, int place) {
        fault(text, -1000 - place);
    }

    private static void sense(String text, int place) {
        fault(text, -2000 - place);
    }

    private static void fault(String text, int want) {
        RoutesByTries x = new RoutesByTries();
        due.is("fault of " + text, Due.tell(x, text), want);
        due.is("letters of " + text, x.count(6), 0);
        due.is("routes of " + text, x.count(0), 0);
        due.refusals("fault of " + text, x, 0, 0, 0, 0, 0, 0);
    }

    private static void faultsOfForm() {
        form("", 0);
        form(";", 0);
        form("q", 0);
        form("R00;", 0);
        form("r", 1);
        form("ra0;", 1);
        form("r/", 1);
        form("r0", 2);
        form("r0;", 2);
        form("r00", 3);
        form("r00a;", 3);
        form("r000;", 3);
        form("r00/", 4);
        form("r00/;", 4);
        form("r00/e;", 4);
        form("r00/A;", 4);
        form("r00//a;", 4);
        form("r00/<;", 5);
        form("r00/<", 5);
        form("r00/>a;", 5);
        form("r00/:*;", 5);
        form("r00/:0", 6);
        form("r00/:00;", 6);
        form("r00/ab;", 5);
        form("r00/*0;", 5);
        form("m0;", 2);
        form("m01/*", 5);
        form("k00;", 3);
        form("k000", 4);
        form("k000/a;", 4);
        form("k0000;", 4);
        form("kx00;", 1);
        form("x;", 1);
        form("x", 1);
        form("x0", 2);
        form("x00;", 2);
        form("x0/a;", 2);
        form("r00;;", 4);
        form("r00;r", 5);
        form("r00; r00;", 4);
        form("r90;x", 5);
        form("r00/a/a/a/a/a/a/a/a/a/a/a/a/a/a/a/a/a/a/a/a/a/a/a/a/a/a/a/a/a/a/a/a/a/a/a/a/a/a/a/a/a/a/a/a/a/a/", 96);
        form("r00" + (char) 176 + ";", 3);
        form((char) 0 + "", 0);
    }

    private static void faultsOfSense() {
        sense("r30;", 0);
        sense("r04;", 0);
        sense("r09;", 0);
        sense("r00/:4;", 0);
        sense("r00/<9;", 0);
        sense("r00/>4;", 0);
        sense("r00/:1/a/>1;", 0);
        sense("r00/<2/:2;", 0);
        sense("r00/<0/<0;", 0);
        sense("r00/:0/a/b/<0;", 0);
        sense("r00/*/a;", 0);
        sense("r00/*/*;", 0);
        sense("r00/a/a/a/a/a;", 0);
        sense("r00/a/a/a/a/*;", 0);
        sense("m00;", 0);
        sense("m22;", 0);
        sense("m10;", 0);
        sense("m21;", 0);
        sense("m03;", 0);
        sense("m34;", 0);
        sense("m39;", 0);
        sense("m01/*;", 0);
        sense("m01/a/a/a/*;", 0);
        sense("m01/a/a/a/a/a;", 0);
        sense("m02/:1/:1;", 0);
        sense("k300;", 0);
        sense("k060;", 0);
        sense("k090;", 0);
        sense("x0;", 0);
        sense("x9;", 0);
        sense("r00;x1;", 4);
        sense("r00;x0;x0;", 7);
        sense("r00;k000;r00/a;m01/b;r31;r32;", 21);
        sense("r00;r00;r00;r00;r00;r00;r00;r00;r00;r00;r00;", 40);
        sense("r00;r00;r00;r00;r00;r00;r00;r00;r00;r00;m01;", 40);
        sense("r00;x0;r00;r00;r00;r00;r00;r00;r00;r00;r00;r00;", 43);
        RoutesByTries x = new RoutesByTries();
        due.is("four segments", Due.tell(x, "r00/a/a/a/*;m01/a/<0/>1/:2;r00/<0/<1/>2/:3;"), 3);
        due.is("ten", Due.tell(x, "r00;r00;r00;r00;r00;r00;r00;"), 7);
        due.is("the last number", x.count(0), 10);
        due.is("x9", Due.tell(x, "x9;"), 1);
        due.is("no room all the same", Due.tell(x, "r00;"), -2000);
    }

    private static void allOrNothing() {
        RoutesByTries x = Due.told("r00/a;k012;");
        due.is("a fault behind", Due.tell(x, "x0;k035;r11/b;k700;"), -2014);
        due.is("nothing dropped", x.count(1), 1);
        due.is("nothing came", x.count(0), 1);
        due.is("no kind changed", x.kind(0, 1, 2), 12);
        due.is("form goes ahead of sense", Due.tell(x, "x5;q"), -1003);
        due.is("nodes as they were", x.count(4), 4);
        due.is("match as it was", x.match(1, 0), 0);
        due.is("the next one comes", Due.tell(x, "x0;r01/b;"), 2);
        due.is("match by it", x.match(2, 1), 1);
    }

    private static void kinds() {
        RoutesByTries x = new RoutesByTries();
        due.is("kind(0, 5, 9)", x.kind(0, 5, 9), 0);
        due.is("kind(0, 2, 3)", x.kind(0, 2, 3), 59);
        due.is("kind(2, 1, 0)", x.kind(2, 1, 0), 0);
        due.is("kind(0, 0, 0)", x.kind(0, 0, 0), 23);
        due.is("kind(3, 6, -1)", x.kind(3, 6, -1), -1);
        due.is("kind(-1, 0, 0)", x.kind(-1, 0, 0), -1);
        due.is("kind(0, 6, -1)", x.kind(0, 6, -1), -2);
        due.is("kind(0, -1, 10)", x.kind(0, -1, 10), -2);
        due.is("kind(0, 0, -1)", x.kind(0, 0, -1), -4);
        due.is("kind(0, 0, 10)", x.kind(0, 0, 10), -6);
        due.is("kind as it was", x.kind(0, 1, 1), 0);
        due.is("kind of 2", x.kind(2, 0, 0), 10);
        due.refusals("kinds", x, 2, 2, 0, 1, 0, 1);
    }

    private static void verbs() {
        RoutesByTries x = Due.told("r00/a;m01/b;");
        due.is("verb(0, 2)", x.verb(0, 2), 0);
        due.is("by PUT", x.match(1, 2), 0);
        due.is("by GET", x.match(1, 0), -9);
        due.is("verb(0, 3)", x.verb(0, 3), 2);
        due.is("by ALL", x.match(1, 3), 0);
        due.is("verb(0, 1)", x.verb(0, 1), 3);
        due.is("verb(2, 9)", x.verb(2, 9), -1);
        due.is("verb(-1, 0)", x.verb(-1, 0), -1);
        due.is("verb(1, 9)", x.verb(1, 9), -3);
        due.is("verb(0, 4)", x.verb(0, 4), -2);
        due.is("verb(0, -1)", x.verb(0, -1), -2);
        due.is("verb stays", x.route(0, 1), 1);
        due.refusals("verbs", x, 2, 2, 1, 0, 0, 0);
    }

    private static void drops() {
        RoutesByTries x = Due.told("r00/a;m01/b;r00/a;");
        due.is("drops(0)", x.drops(0), 2);
        due.is("drops(0) again", x.drops(0), -1);
        due.is("drops(3)", x.drops(3), -1);
        due.is("drops(-1)", x.drops(-1), -1);
        due.is("the next one is matched", x.match(1, 0), 2);
        due.is("drops(1)", x.drops(1), 1);
        due.is("nodes", x.nodes(0), 2);
        due.is("a new number", Due.tell(x, "r00/a;"), 1);
        due.is("there", x.count(1), 12);
        due.refusals("drops", x, 3, 0, 0, 0, 0, 0);
    }

    private static void copies() {
        RoutesByTries x = Due.told("r02/a/:1/*;m01/b;m02/c;");
        due.is("copies(0, 2)", x.copies(0, 2), 3);
        int[] want = {2, 2, -9, 3, 2, 1};
        for (int i = 0; i < want.length; i++) {
            due.is("copy: route(3, " + i + ")", x.route(3, i), want[i]);
        }
        due.is("copy: segment(3, 1)", x.segment(3, 1), 31);
        due.is("nodes by a copy", x.nodes(2), 3);
        due.is("copies(2, 1)", x.copies(2, 1), 4);
        due.is("match by copies", x.match(Due.path("bcaa"), 2), 3);
        due.is("copied mount", x.route(4, 2), 2);
        due.is("copied mount's router", x.route(4, 0), 1);
        due.is("the old one stays", x.route(2, 0), 0);
        due.is("copies(0, 0)", x.copies(0, 0), 5);
        due.is("copies(9, 0)", x.copies(9, 0), -1);
        due.is("copies(0, 3)", x.copies(0, 3), -1);
        due.is("copies(0, -1)", x.copies(0, -1), -1);
        due.is("copies(1, 1)", x.copies(1, 1), -3);
        due.is("copies(1, 2)", x.copies(1, 2), -3);
        due.is("copies(1, 0)", x.copies(1, 0), 6);
        x.drops(6);
        due.is("copies(6, 0)", x.copies(6, 0), -1);
        due.is("copies(0, 1) a", x.copies(0, 1), 7);
        due.is("copies(0, 1) b", x.copies(0, 1), 8);
        due.is("copies(0, 1) c", x.copies(0, 1), 9);
        due.is("copies(0, 1) d", x.copies(0, 1), -6);
        due.is("copies(1, 2) full", x.copies(1, 2), -3);
        x.drops(9);
        due.is("a dropped number makes no room", x.copies(0, 1), -6);
        due.refusals("copies", x, 4, 0, 3, 0, 0, 2);
    }
}
