/** Promises 12 to 18: what a path brings, what is bound, looked at, brought, never brought. */
public final class MatchTest {
    private static final Due due = new Due("MatchTest");
    private static final String MIXED = "r00/a/b;r00/<0/:1;r00/:0/*;r00/*;";

    public static void main(String[] args) {
        plain();
        dropped();
        loose();
        early();
        greedy();
        strict();
        shorts();
        mounts();
        servedVerbs();
        bound();
        boundByMounts();
        brought();
        never();
        matched();
        refusals();
        due.end();
    }

    private static void brings(RoutesByTries x, String path, int end, int looked) {
        x.match(340, 0);
        due.is("looked(" + path + ")", x.looked(Due.path(path), 0), looked);
        due.is("match(" + path + ")", x.match(Due.path(path), 0), end);
    }

    private static void plain() {
        RoutesByTries x = Due.told(MIXED);
        brings(x, "", 3, 1);
        brings(x, "ab", 0, 3);
        brings(x, "aa", 1, 4);
        brings(x, "a", 2, 4);
        brings(x, "ca", 2, 2);
        brings(x, "bbbb", 2, 4);
        RoutesByTries y = Due.told("r00/a;r00/a;r00/>1;r00/d/a;r00/b;");
        brings(y, "a", 0, 2);
        brings(y, "c", 2, 2);
        brings(y, "d", 2, 3);
        brings(y, "", -9, 1);
        brings(y, "aa", -9, 2);
        y.drops(0);
        brings(y, "a", 1, 2);
    }

    private static void dropped() {
        RoutesByTries x = Due.told("r00/a;r00/b;r00/c;r00/d/*;m01/b/b;m01/a/c;r10/d;");
        x.drops(0);
        brings(x, "b", 1, 2);
        brings(x, "c", 2, 2);
        brings(x, "d", 3, 2);
        brings(x, "ad", -9, 2);
        x.drops(1);
        brings(x, "c", 2, 2);
        brings(x, "b", -9, 2);
        brings(x, "cd", -9, 2);
        x.drops(2);
        brings(x, "dd", 3, 2);
        brings(x, "bbd", 6, 5);
        x.drops(3);
        brings(x, "bd", -9, 2);
        brings(x, "bbd", 6, 5);
        x.drops(4);
        brings(x, "acd", 6, 5);
        brings(x, "bbd", -9, 1);
    }

    private static void loose() {
        RoutesByTries x = Due.told(MIXED + "k010;");
        brings(x, "aa", 2, 3);
        brings(x, "ab", 0, 3);
        brings(x, "", 3, 1);
        RoutesByTries y = Due.told("r00/<0;r00/:0/a;k010;");
        brings(y, "b", 0, 3);
    }

    private static void early() {
        RoutesByTries x = Due.told("m01;r00/a;r10/b;r00/b;r00/*;");
        brings(x, "a", 1, 2);
        brings(x, "b", 3, 2);
        brings(x, "c", 4, 1);
        x.kind(0, 2, 0);
        brings(x, "a", 1, 3);
        brings(x, "b", 2, 3);
        brings(x, "c", 4, 2);
        x.drops(4);
        brings(x, "c", -9, 3);
        x.kind(0, 0, 0);
        brings(x, "c", -9, 2);
    }

    private static void greedy() {
        RoutesByTries x = Due.told(MIXED + "k030;");
        brings(x, "", 3, 1);
        brings(x, "ab", 3, 1);
        x.drops(3);
        brings(x, "ab", 0, 3);
        brings(x, "aa", 2, 3);
        RoutesByTries y = Due.told("r02/*;r00/a;k030;");
        brings(y, "a", 1, 2);
    }

    private static void strict() {
        RoutesByTries x = Due.told(MIXED + "k040;");
        brings(x, "", 3, 1);
        brings(x, "ab", 0, 3);
        brings(x, "aa", -9, 2);
        brings(x, "a", -9, 2);
        brings(x, "b", -9, 2);
        brings(x, "ba", 1, 3);
        brings(x, "ca", 2, 2);
        x.drops(2);
        brings(x, "ca", 3, 1);
        RoutesByTries y = Due.told("m01;r00/a/a;r10/a;r10;k040;");
        brings(y, "a", -9, 2);
        brings(y, "", 3, 2);
        y.drops(1);
        brings(y, "a", 2, 3);
        RoutesByTries z = Due.told("m01/a;m02/a;r10/b;r20/c;k040;");
        brings(z, "ac", 3, 5);
        brings(z, "ad", -9, 4);
    }

    private static void shorts() {
        RoutesByTries x = Due.told(MIXED + "k051;");
        brings(x, "aa", -9, 1);
        brings(x, "a", -9, 2);
        brings(x, "c", 2, 2);
        brings(x, "", 3, 1);
        x.kind(0, 5, 2);
        brings(x, "ab", 0, 3);
        brings(x, "ca", 2, 2);
        brings(x, "caa", -9, 1);
        x.kind(0, 5, 0);
        brings(x, "", 3, 1);
        brings(x, "c", -9, 1);
        x.kind(0, 4, 0);
        brings(x, "caa", 2, 2);
        RoutesByTries y = Due.told("m01/a;r10/*;r00/*;k151;");
        brings(y, "aa", 1, 3);
        brings(y, "aaa", 2, 3);
    }

    private static void mounts() {
        RoutesByTries x = Due.told("m01/a;m12/b;r20/c;r10/:0/c;m02/a;r20;");
        brings(x, "abc", 2, 6);
        brings(x, "a", 5, 4);
        brings(x, "ab", 5, 5);
        brings(x, "acc", 3, 5);
        brings(x, "ac", 2, 6);
        brings(x, "", -9, 1);
        RoutesByTries y = Due.told("m01;m12;m02;r20/d/*;");
        brings(y, "d", 3, 4);
        brings(y, "a", -9, 4);
        y.drops(0);
        brings(y, "dddd", 3, 3);
    }

    private static void servedVerbs() {
        RoutesByTries x = Due.told("r00/a;r01/b;r02/c;r03/d;");
        int[] want = {3, 2, 4, 15};
        for (int path = 1; path <= 4; path++) {
            due.is("verbs(" + path + ")", x.verbs(path), want[path - 1]);
            for (int verb = 0; verb < 4; verb++) {
                boolean served = (want[path - 1] >> verb & 1) != 0;
                due.is("match(" + path + ", " + verb + ")", x.match(path, verb), served ? path - 1 : -9);
            }
        }
        due.is("verbs of nothing", x.verbs(0), 0);
        RoutesByTries y = Due.told("r01/a;r00/a;r03/*;r02/:0;");
        due.is("GET goes by HEAD's", y.match(1, 0), 1);
        due.is("HEAD", y.match(1, 1), 0);
        due.is("PUT", y.match(1, 2), 3);
        due.is("ALL", y.match(1, 3), 2);
        due.is("looked by ALL", y.looked(1, 3), 3);
    }

    private static void bound() {
        RoutesByTries x = Due.told("r00/<2/>0/:3;r00/a/:1/*;r00/b;");
        int path = Due.path("bdc");
        int[] want = {3, -9, 1, 2, -9, 0};
        for (int i = 0; i < want.length; i++) {
            due.is("bound(bdc, " + i + ")", x.bound(path, 0, i), want[i]);
        }
        path = Due.path("acdd");
        int[] wantRest = {-9, 2, -9, -9, 2, 0};
        for (int i = 0; i < wantRest.length; i++) {
            due.is("bound(acdd, " + i + ")", x.bound(path, 1, i), wantRest[i]);
        }
        due.is("a rest of none", x.bound(Due.path("ad"), 0, 4), 0);
        due.is("without parameters", x.bound(2, 0, 0), -9);
        due.is("without rest", x.bound(2, 0, 4), -9);
        RoutesByTries y = Due.told("r10/:0/*;m01/:1/d;");
        int[] wantFirst = {0, 2, -9, -9, 1, 1};
        for (int i = 0; i < wantFirst.length; i++) {
            due.is("bound(cdad, " + i + ")", y.bound(Due.path("cdad"), 0, i), wantFirst[i]);
        }
    }

    private static void boundByMounts() {
        RoutesByTries x = Due.told("m01/:0/a;m12/:1;r20/:0/*;m02/:3;r10/b/>1;");
        int path = Due.path("cadb");
        int[] want = {1, 3, -9, -9, 0, 2};
        for (int i = 0; i < want.length; i++) {
            due.is("bound(cadb, " + i + ")", x.bound(path, 0, i), want[i]);
        }
        path = Due.path("dbca");
        int[] wantOne = {1, -9, -9, 3, 2, 1};
        for (int i = 0; i < wantOne.length; i++) {
            due.is("bound(dbca, " + i + ")", x.bound(path, 0, i), wantOne[i]);
        }
        path = Due.path("aabd");
        int[] wantBelow = {0, 3, -9, -9, -9, 1};
        for (int i = 0; i < wantBelow.length; i++) {
            due.is("bound(aabd, " + i + ") by 4", x.bound(path, 0, i), wantBelow[i]);
        }
        x.drops(4);
        int[] wantLater = {3, 1, -9, -9, 0, 2};
        for (int i = 0; i < wantLater.length; i++) {
            due.is("bound(aabd, " + i + ")", x.bound(path, 0, i), wantLater[i]);
        }
    }

    private static void brought() {
        RoutesByTries x = Due.told("r00/a/*;r01/<0;r02/:0;r03/:1;m01;r01;r01/*;");
        due.is("brought(0, 0)", x.brought(0, 0), 85);
        due.is("brought(0, 1)", x.brought(0, 1), 1);
        due.is("brought(1, 0)", x.brought(1, 0), 1);
        due.is("brought(1, 1)", x.brought(1, 1), 2);
        due.is("brought(2, 0)", x.brought(2, 0), 4);
        due.is("brought(2, 1)", x.brought(2, 1), 1);
        due.is("brought(3, 0) by GET", x.brought(3, 0), 3);
        due.is("brought(3, 1) by GET", x.brought(3, 1), 2);
        due.is("brought(5, 0)", x.brought(5, 0), 1);
        due.is("brought(5, 1)", x.brought(5, 1), 0);
        due.is("brought(6, 0)", x.brought(6, 0), 252);
        due.is("brought(6, 1)", x.brought(6, 1), 9);
        due.is("brought(4, 9)", x.brought(4, 9), -3);
        due.is("brought(7, 9)", x.brought(7, 9), -1);
        due.is("brought(0, 2)", x.brought(0, 2), -2);
        due.is("brought(0, -1)", x.brought(0, -1), -2);
        RoutesByTries y = Due.told("r00/a;r00/a;");
        due.is("brought by none", y.brought(1, 0), 0);
        due.is("the least of none", y.brought(1, 1), -9);
    }

    private static void never() {
        RoutesByTries x = Due.told("r00/a;r00/a;r01/a;r02/a;r03/a;m01/a;r10/*;r20;");
        due.is("never", x.never(), 2 + 4 + 16 + 128);
        x.drops(0);
        due.is("never behind 0", x.never(), 4 + 16 + 128);
        x.drops(1);
        due.is("never behind 1", x.never(), 128);
        x.drops(7);
        due.is("never behind 7", x.never(), 0);
        x.verb(2, 2);
        due.is("never by PUT", x.never(), 8);
        due.is("never of none", new RoutesByTries().never(), 0);
        due.is("a mount is no end", Due.told("m01;").never(), 0);
        due.is("by the empty path", Due.told("r00;").never(), 0);
    }

    private static void matched() {
        RoutesByTries x = Due.told("r00/a;r01/:0/*;r02/>0;r03/d/d;");
        int[] want = {2, 340, 3, 1};
        for (int verb = 0; verb < 4; verb++) {
            due.is("matched(" + verb + ")", x.matched(verb), want[verb]);
        }
        due.is("matched(4)", x.matched(4), -2);
        due.is("matched(-1)", x.matched(-1), -2);
        due.is("matched of all", Due.told("r03/*;").matched(3), 341);
        due.is("matched of none", new RoutesByTries().matched(0), 0);
        due.refusals("matched", x, 0, 2, 0, 0, 0, 0);
    }

    private static void refusals() {
        RoutesByTries x = Due.told("r00/a;");
        due.is("match(341, 4)", x.match(341, 4), -1);
        due.is("match(-1, 0)", x.match(-1, 0), -1);
        due.is("match(0, 4)", x.match(0, 4), -2);
        due.is("match(0, -1)", x.match(0, -1), -2);
        due.is("bound(341, 4, 6)", x.bound(341, 4, 6), -1);
        due.is("bound(-1, 0, 0)", x.bound(-1, 0, 0), -1);
        due.is("bound(0, 4, 0)", x.bound(0, 4, 0), -2);
        due.is("bound(0, 0, 6)", x.bound(0, 0, 6), -2);
        due.is("bound(0, 0, -1)", x.bound(0, 0, -1), -2);
        due.is("bound(0, 0, 0)", x.bound(0, 0, 0), -3);
        due.is("looked(341, 4)", x.looked(341, 4), -1);
        due.is("looked(-1, 0)", x.looked(-1, 0), -1);
        due.is("looked(0, 4)", x.looked(0, 4), -2);
        due.is("looked(0, -1)", x.looked(0, -1), -2);
        due.is("verbs(341)", x.verbs(341), -1);
        due.is("verbs(-1)", x.verbs(-1), -1);
        due.refusals("refusals", x, 8, 7, 1, 0, 0, 0);
    }
}
