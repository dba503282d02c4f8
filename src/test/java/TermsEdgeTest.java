/** The bounds that "Terms" names for PATHS, ROUTERS, ROUTES, SEGMENTS and MATCHES, a test for each sentence. */
public final class TermsEdgeTest {
    private static final Due due = new Due("TermsEdgeTest");
    private static final int GET = 0;
    private static final int HEAD = 1;
    private static final int PUT = 2;
    private static final int ALL = 3;

    public static void main(String[] args) {
        lastCall();
        paths();
        routersAtFirst();
        tenRoutes();
        droppedNumbers();
        segments();
        lettersOfSegments();
        verbsServe();
        nodes();
        nothingLeft();
        leastEnd();
        rest();
        mounts();
        ordersOfKinds();
        ordersAtTheEnd();
        againOfEarly();
        strict();
        shorts();
        bound();
        due.end();
    }

    private static void brings(RoutesByTries x, String path, int verb, int end, int looked) {
        due.is("match(" + path + ", " + verb + ")", x.match(Due.path(path), verb), end);
        due.is("looked(" + path + ", " + verb + ")", x.looked(Due.path(path), verb), looked);
    }

    private static void lastCall() {
        due.by("An object is used for at most 512 calls");
        RoutesByTries x = new RoutesByTries();
        for (int i = 1; i <= 511; i++) {
            x.drops(0);
        }
        due.is("count(11), the 512th call", x.count(11), 511);
    }

    private static void paths() {
        due.by("numbers 0 .. 340: the shorter ones first, of as long ones by their LETTERS");
        String[] all = new String[341];
        all[0] = "";
        for (int i = 1; i < all.length; i++) {
            all[i] = all[(i - 1) / 4] + "abcd".charAt((i - 1) % 4);
        }
        for (int path = 0; path < all.length; path++) {
            RoutesByTries x = new RoutesByTries();
            due.is("letterOf(" + path + ", -1)", x.letterOf(path, -1), all[path].length());
            for (int i = 0; i < all[path].length(); i++) {
                due.is("letterOf(" + path + ", " + i + ")", x.letterOf(path, i), all[path].charAt(i) - 'a');
            }
        }
        due.by("0 is empty, 1 a, 4 d, 5 aa, 6 ab, 21 aaa, 340 dddd");
        String[] told = {"", "a", "d", "aa", "ab", "aaa", "dddd"};
        int[] numbers = {0, 1, 4, 5, 6, 21, 340};
        for (int i = 0; i < told.length; i++) {
            due.is("the number of " + told[i], Due.told("r00" + slashed(told[i]) + ";").brought(0, 1), numbers[i]);
        }
    }

    private static String slashed(String letters) {
        return letters.replaceAll(".", "/$0");
    }

    private static void routersAtFirst() {
        due.by("ROUTERS 0 .. 2, each of a KIND (PLAIN at first) with a FIGURE (0 .. 9; 0 at first)");
        RoutesByTries x = new RoutesByTries();
        for (int router = 0; router <= 2; router++) {
            due.is("kind at first", x.kind(router, 5, 9), 0);
            due.is("the greatest figure", x.kind(router, 5, 0), 59);
            due.is("the least figure", x.kind(router, 0, 0), 50);
        }
    }

    private static void tenRoutes() {
        due.by("ROUTES 0 .. as they come (10 at most");
        RoutesByTries x = new RoutesByTries();
        for (int i = 0; i < 10; i++) {
            due.is("statement " + i, Due.tell(x, i % 2 == 0 ? "r20;" : "m12;"), 1);
            due.is("came", x.count(0), i + 1);
        }
        due.is("an eleventh end", Due.tell(x, "r00;"), -2000);
        due.is("an eleventh mount", Due.tell(x, "m01;"), -2000);
        due.is("an eleventh copy", x.copies(0, 0), -6);
        due.is("none came", x.count(0), 10);
        RoutesByTries y = Due.told("r00;");
        for (int i = 1; i < 10; i++) {
            due.is("copy " + i, y.copies(0, 0), i);
        }
        due.is("a copy more", y.copies(0, 0), -6);
        due.is("an end more", Due.tell(y, "r00;"), -2000);
        due.is("the tenth brings", y.without(0, 0, GET), 1);
        due.is("the tenth's number", y.route(9, 0), 0);
        due.is("ten in one table", Due.tell(new RoutesByTries(), "r00;".repeat(10)), 10);
        due.is("eleven in one table", Due.tell(new RoutesByTries(), "r00;".repeat(11)), -2040);
        due.is("ten and a kind", Due.tell(new RoutesByTries(), "r00;".repeat(10) + "k000;"), 11);
    }

    private static void droppedNumbers() {
        due.by("a number that is DROPPED is never used again");
        RoutesByTries x = Due.told("r00/a;r00/b;");
        due.is("drops the last", x.drops(1), 1);
        due.is("a copy's number", x.copies(0, 0), 2);
        due.is("drops the first", x.drops(0), 1);
        due.is("a statement", Due.tell(x, "r00/c;"), 1);
        due.is("its number", x.match(Due.path("c"), GET), 3);
        due.is("there", x.count(1), 0b1100);
        due.is("came", x.count(0), 4);
        RoutesByTries y = Due.told("r00;".repeat(10));
        for (int i = 0; i < 10; i++) {
            due.is("drops " + i, y.drops(i), 9 - i);
        }
        due.is("none is there", y.count(1), 0);
        due.is("all the same no room", Due.tell(y, "r00;"), -2000);
        due.is("no number either", y.match(0, GET), -9);
    }

    private static void segments() {
        due.by("with SEGMENTS (0 .. 4)");
        RoutesByTries x = Due.told("r00;r00/a/b/c/d;r00/c/c/c/*;m01/b/b/b/b;r10;m12;r20;r00/*;");
        int[] many = {0, 4, 4, 4, 0, 0, 0, 1};
        for (int i = 0; i < many.length; i++) {
            due.is("segments of " + i, x.route(i, 3), many[i]);
        }
        brings(x, "", GET, 0, 1);
        brings(x, "abcd", GET, 1, 5);
        brings(x, "ccc", GET, 2, 4);
        brings(x, "cccd", GET, 2, 4);
        brings(x, "bbbb", GET, 4, 6);
        for (String five : new String[] {"r00/a/b/c/d/a;", "r00/a/b/c/d/*;", "m01/a/b/c/d/a;", "r00/:0/:1/:2/:3/a;"}) {
            due.is(five, Due.tell(x, five), -2000);
        }
    }

    private static void lettersOfSegments() {
        due.by("a LETTER; LOW (a, b) or HIGH (c, d) with a PARAMETER 0 .. 3; ANY with a PARAMETER; REST");
        String[] segments = {"a", "b", "c", "d", "<0", "<3", ">0", ">3", ":0", ":3", "*"};
        String[] takes = {"a", "b", "c", "d", "ab", "ab", "cd", "cd", "abcd", "abcd", "abcd"};
        int[] numbers = {0, 1, 2, 3, 10, 13, 20, 23, 30, 33, 40};
        for (int i = 0; i < segments.length; i++) {
            RoutesByTries x = Due.told("r00/" + segments[i] + ";");
            due.is("segment " + segments[i], x.segment(0, 0), numbers[i]);
            for (char c = 'a'; c <= 'd'; c++) {
                int want = takes[i].indexOf(c) >= 0 ? 0 : -9;
                due.is(segments[i] + " takes " + c, x.match(Due.path("" + c), GET), want);
            }
            due.is(segments[i] + " takes nothing", x.match(0, GET), segments[i].equals("*") ? 0 : -9);
            due.is(segments[i] + " takes two", x.match(Due.path("dd"), GET), segments[i].equals("*") ? 0 : -9);
        }
    }

    private static void verbsServe() {
        due.by("0 GET serves GET and HEAD; 1 HEAD serves HEAD; 2 PUT serves PUT; 3 ALL serves all four");
        int[] served = {0b0011, 0b0010, 0b0100, 0b1111};
        for (int verb = 0; verb <= 3; verb++) {
            RoutesByTries x = Due.told("r0" + verb + ";");
            due.is("verbs by " + verb, x.verbs(0), served[verb]);
            for (int asked = 0; asked <= 3; asked++) {
                int want = (served[verb] >> asked & 1) != 0 ? 0 : -9;
                due.is("END of " + verb + " asked by " + asked, x.match(0, asked), want);
            }
        }
    }

    private static void nodes() {
        due.by("from its ROOT a NODE for each beginning of its ROUTES THERE (PARAMETERS are not told apart)");
        String[] tables = {"r00;", "r00/*;", "m01;", "r00/a;", "r00/a/*;", "r00/:0/:1;r00/:1/:0;", "r00/<0;r00/>0;r00/:0;",
            "r00/a/b/c/d;", "r00/a;r00/a/b;", "m01/a;m01/a;", "r00/a/b;r00/b/a;", "r10/a/b;"};
        int[] want = {1, 1, 1, 2, 2, 3, 4, 5, 3, 2, 5, 1};
        for (int i = 0; i < tables.length; i++) {
            due.is("nodes(0) of " + tables[i], Due.told(tables[i]).nodes(0), want[i]);
        }
        RoutesByTries x = Due.told("r00/a/b;r00/a;");
        x.drops(0);
        due.is("a dropped one's NODES go", x.nodes(0), 2);
        x.drops(1);
        due.is("but the ROOT stays", x.nodes(0), 1);
        due.is("of all TRIES", x.count(4), 3);
    }

    private static void nothingLeft() {
        due.by("(E) if nothing is left of the PATH");
        RoutesByTries x = Due.told("r00;r00/a;r00/a/b/c;");
        brings(x, "", GET, 0, 1);
        brings(x, "a", GET, 1, 2);
        brings(x, "ab", GET, -9, 3);
        brings(x, "abc", GET, 2, 4);
        brings(x, "abca", GET, -9, 4);
        brings(x, "b", GET, -9, 1);
    }

    private static void leastEnd() {
        due.by("the least END of this NODE that serves the VERB");
        for (String rest : new String[] {"", "/*"}) {
            RoutesByTries x = Due.told("r02/aR;r01/aR;r00/aR;r03/aR;r03/aR;".replace("R", rest));
            brings(x, "a", GET, 2, 2);
            brings(x, "a", HEAD, 1, 2);
            brings(x, "a", PUT, 0, 2);
            brings(x, "a", ALL, 3, 2);
            x.drops(3);
            brings(x, "a", ALL, 4, 2);
            x.drops(4);
            brings(x, "a", ALL, -9, 2);
            x.drops(2);
            brings(x, "a", GET, -9, 2);
            brings(x, "a", HEAD, 1, 2);
        }
        due.by("the least END with REST from here");
        brings(Due.told("r00/a/*;r00/*;r00/*;"), "b", GET, 1, 1);
    }

    private static void rest() {
        due.by("it takes all that is left, nothing too");
        String[] paths = {"", "a", "ab", "abc", "abcd"};
        for (int first = 0; first <= 3; first++) {
            RoutesByTries x = Due.told("r00" + slashed(paths[first]) + "/*;");
            for (int length = 0; length <= 4; length++) {
                int path = Due.path(paths[length]);
                due.is("a rest behind " + first + " of " + length, x.match(path, GET), length >= first ? 0 : -9);
                if (length >= first) {
                    due.is("taken", x.bound(path, GET, 4), length - first);
                }
            }
        }
    }

    private static void mounts() {
        due.by("(M) the MOUNTS of this NODE, by numbers: the ROOT of its ROUTER with what is left");
        RoutesByTries x = Due.told("m02;m01;r10/a;r20/a;m12;");
        brings(x, "a", GET, 3, 3);
        x.drops(0);
        brings(x, "a", GET, 2, 3);
        x.drops(2);
        brings(x, "a", GET, 3, 4);
        x.drops(4);
        brings(x, "a", GET, -9, 2);
        RoutesByTries y = Due.told("m01;m01;m02;r20/*;");
        brings(y, "dddd", GET, 3, 4);
        brings(y, "", GET, 3, 4);
        brings(y, "", PUT, -9, 4);
        due.by("ROUTES 0 .. : the first END behind the last MOUNT");
        RoutesByTries last = Due.told("r10/*;r20;r20;r20;r20;r20;r20;r20;r20;m01/d;");
        brings(last, "d", GET, 0, 3);
        brings(last, "dddd", GET, 0, 3);
        due.by("what is left of the longest PATH behind four LETTERS is nothing");
        RoutesByTries z = Due.told("m01/a/b/c/d;m12;r20;");
        brings(z, "abcd", GET, 2, 7);
        due.is("mounts on the way", z.bound(Due.path("abcd"), GET, 5), 2);
        RoutesByTries w = Due.told("m01;m12;r20/a/b/c/d;");
        brings(w, "abcd", GET, 2, 7);
        brings(w, "abc", GET, -9, 6);
    }

    /** Which END a PATH brings, then which when that one is dropped, and so on till none. */
    private static void broughtInTurn(String table, String path, int... want) {
        RoutesByTries x = Due.told(table);
        for (int end : want) {
            due.is("match(" + path + ") of " + table, x.match(Due.path(path), GET), end);
            if (end >= 0) {
                x.drops(end);
            }
        }
    }

    private static void ordersOfKinds() {
        String all = "r00/a;r00/<0;r00/:0;r00/*;m01;r10/a;";
        due.by("PLAIN E L C A R M");
        broughtInTurn(all, "a", 0, 1, 2, 3, 5, -9);
        due.by("LOOSE E L A C R M");
        broughtInTurn(all + "k010;", "a", 0, 2, 1, 3, 5, -9);
        due.by("EARLY M ahead of all, then as PLAIN");
        broughtInTurn(all + "k020;", "a", 5, 0, 1, 2, 3, -9);
        due.by("GREEDY R ahead of all, then as a LOOSE one");
        broughtInTurn(all + "k030;", "a", 3, 0, 2, 1, 5, -9);
        due.by("STRICT as PLAIN");
        broughtInTurn(all + "k040;", "a", 0, 1, 2, 3, 5, -9);
        due.by("SHORT as a STRICT one");
        broughtInTurn(all + "k059;", "a", 0, 1, 2, 3, 5, -9);
        due.by("routers of kinds that look in another order: each by its own KIND");
        String mounted = "m01;r10/a;r10/<0;r10/:0;r10/*;m12;r20/a;";
        broughtInTurn(mounted, "a", 1, 2, 3, 4, 6, -9);
        broughtInTurn(mounted + "k010;k030;", "a", 1, 2, 3, 4, 6, -9);
        broughtInTurn(mounted + "k110;", "a", 1, 3, 2, 4, 6, -9);
        broughtInTurn(mounted + "k120;", "a", 6, 1, 2, 3, 4, -9);
        broughtInTurn(mounted + "k130;", "a", 4, 1, 3, 2, 6, -9);
        due.by("HIGH, as the next LETTER is");
        broughtInTurn("r00/c;r00/>0;r00/:0;r00/<0;", "c", 0, 1, 2, -9);
        broughtInTurn("r00/c;r00/>0;r00/:0;r00/<0;k010;", "c", 0, 2, 1, -9);
    }

    private static void ordersAtTheEnd() {
        String all = "r00;r00/*;m01;r10;r00/a;r00/<0;r00/:0;";
        due.by("if nothing is left of the PATH, no NODE behind is looked at: E R M");
        broughtInTurn(all, "", 0, 1, 3, -9);
        broughtInTurn(all + "k010;", "", 0, 1, 3, -9);
        due.by("EARLY M ahead of all");
        broughtInTurn(all + "k020;", "", 3, 0, 1, -9);
        due.by("GREEDY R ahead of all");
        broughtInTurn(all + "k030;", "", 1, 0, 3, -9);
        due.by("STRICT: no NODE by L, C, A is there for nothing");
        broughtInTurn(all + "k040;", "", 0, 1, 3, -9);
        broughtInTurn(all + "k050;", "", 0, 1, 3, -9);
    }

    private static void againOfEarly() {
        due.by("EARLY (M again, too)");
        brings(Due.told("m01;k020;"), "", GET, -9, 3);
        brings(Due.told("m01;m02;k020;"), "a", GET, -9, 5);
        brings(Due.told("m01;m12;k020;k120;"), "a", GET, -9, 7);
        brings(Due.told("m01;r00/*;k020;"), "a", GET, 1, 2);
        brings(Due.told("m01/a;k020;"), "a", GET, -9, 4);
        due.by("GREEDY (R again, too)");
        brings(Due.told("r02/*;r00/a;k030;"), "a", GET, 1, 2);
        brings(Due.told("r02/*;r00/a;k030;"), "a", PUT, 0, 1);
    }

    private static void strict() {
        due.by("if one of the NODES by L, C, A is there and brought nothing, nothing else is looked at in this NODE but E");
        for (String kind : new String[] {"k040;", "k059;"}) {
            String others = "/b;r00/*;m01;r10/*;" + kind;
            brings(Due.told("r00/a" + others + "r00/<0;r00/:0;"), "a", GET, -9, 2);
            brings(Due.told("r00/<0" + others + "r00/:0;"), "a", GET, -9, 2);
            brings(Due.told("r00/>0" + others + "r00/:0;"), "d", GET, -9, 2);
            brings(Due.told("r00/:0" + others), "a", GET, -9, 2);
            due.by("and where none is there it is as PLAIN");
            brings(Due.told("r00/b" + others), "a", GET, 1, 1);
            brings(Due.told("r00/<0" + others), "c", GET, 1, 1);
            brings(Due.told("r00/>0" + others), "b", GET, 1, 1);
            brings(Due.told("r00/a" + others), "", GET, 1, 1);
            RoutesByTries x = Due.told("r00/a" + others);
            x.drops(0);
            brings(x, "a", GET, 1, 1);
            due.by("is there and brought nothing: by a MOUNT's beginning, or for another VERB, too");
            brings(Due.told("m01/a;r00/*;" + kind), "a", GET, -9, 3);
            RoutesByTries y = Due.told("r02/a;r00/*;" + kind);
            brings(y, "a", GET, -9, 2);
            brings(y, "a", PUT, 0, 2);
        }
        due.by("nothing else is looked at in this NODE: the NODE ahead goes on by its own KIND");
        RoutesByTries x = Due.told("m01;m02;r10/a/b;r10/*;r20/*;k140;");
        brings(x, "ac", GET, 4, 4);
        brings(x, "b", GET, 3, 2);
    }

    private static void shorts() {
        due.by("a NODE with more than FIGURE LETTERS left brings nothing (it is LOOKED at all the same)");
        String[] paths = {"", "a", "ab", "abc", "abcd"};
        RoutesByTries x = Due.told("r00/*;");
        for (int figure = 0; figure <= 9; figure++) {
            x.kind(0, 5, figure);
            for (int length = 0; length <= 4; length++) {
                brings(x, paths[length], GET, length <= figure ? 0 : -9, 1);
            }
        }
        RoutesByTries y = Due.told("m01/a;r10/*;r00/*;k151;");
        brings(y, "a", GET, 1, 3);
        brings(y, "ab", GET, 1, 3);
        brings(y, "abc", GET, 2, 3);
        y.kind(1, 5, 0);
        brings(y, "a", GET, 1, 3);
        brings(y, "ab", GET, 2, 3);
        due.by("LETTERS left, however many a MOUNT's SEGMENTS took");
        RoutesByTries z = Due.told("m01/a/b;r10/*;r00/*;m01;k151;");
        brings(z, "ab", GET, 1, 4);
        brings(z, "aba", GET, 1, 4);
        brings(z, "abaa", GET, 2, 4);
        Due.tell(z, "x2;");
        brings(z, "", GET, 1, 2);
        brings(z, "c", GET, 1, 2);
        brings(z, "cc", GET, -9, 2);
        due.by("only a SHORT one feels its FIGURE");
        for (int kind = 0; kind <= 4; kind++) {
            y.kind(1, kind, 0);
            brings(y, "abcd", GET, 1, 3);
        }
    }

    /** What is BOUND: PARAMETERS 0 .. 3, REST, how many MOUNTS. */
    private static void boundBy(String table, String path, int... want) {
        RoutesByTries x = Due.told(table);
        for (int what = 0; what <= 5; what++) {
            String call = "bound(" + path + ", GET, " + what + ") of " + table;
            due.is(call, x.bound(Due.path(path), GET, what), want[what]);
        }
    }

    private static void bound() {
        due.by("each PARAMETER of the END's SEGMENTS to its LETTER");
        boundBy("r00/:0/:1/:2/:3;", "dcba", 3, 2, 1, 0, -9, 0);
        boundBy("r00/<3/>2;", "bd", -9, -9, 3, 1, -9, 0);
        boundBy("r00;", "", -9, -9, -9, -9, -9, 0);
        boundBy("r00/:0/a;r00/:1/b;", "cb", -9, 2, -9, -9, -9, 0);
        due.by("and of the MOUNTS', on the way");
        boundBy("m01/:0;m12/:1;r20/:2/:3;", "abcd", 0, 1, 2, 3, -9, 2);
        boundBy("m02/:3/:2;r20;", "dc", -9, -9, 2, 3, -9, 1);
        boundBy("m01/:0;m02/:1;r10/a;r20/b;", "cb", -9, 2, -9, -9, -9, 1);
        due.by("a PARAMETER that comes again further on to the later one");
        boundBy("m01/:0;m12/:0;r20/:0;", "abc", 2, -9, -9, -9, -9, 2);
        boundBy("m01/:0/:1;m12/:0;r20/a;", "abca", 2, 1, -9, -9, -9, 2);
        boundBy("m01/:0/:1;r10/:1/:0;", "abcd", 3, 2, -9, -9, -9, 1);
        due.by("REST: how many LETTERS it took");
        boundBy("r00/*;", "", -9, -9, -9, -9, 0, 0);
        boundBy("r00/*;", "dddd", -9, -9, -9, -9, 4, 0);
        boundBy("m01/:1;r10/:1/*;", "abcd", -9, 1, -9, -9, 2, 1);
        boundBy("m01/a;m12;r20/*;", "a", -9, -9, -9, -9, 0, 2);
    }
}
