/** The bounds that promises 12 to 27 and "==== II." name: what is brought, taken, built, best, lost, told by a ROW. */
public final class AnswersEdgeTest {
    private static final Due due = new Due("AnswersEdgeTest");
    private static final int GET = 0;

    public static void main(String[] args) {
        match();
        boundBringsNothing();
        looked();
        verbs();
        brought();
        never();
        matched();
        witness();
        witnessOfMounts();
        clash();
        clashOfVerbs();
        built();
        builtByTheWay();
        back();
        without();
        withoutNodes();
        best();
        lost();
        lostRoutes();
        mean();
        whatIsKinds();
        whatIsFigures();
        askedByAll();
        behindChanges();
        nothingChanges();
        due.end();
    }

    private static void match() {
        due.by("12: What it brings; -9");
        RoutesByTries x = Due.told("r00;r00/d/d/d/d;");
        due.is("the first PATH", x.match(0, GET), 0);
        due.is("the last PATH", x.match(340, GET), 1);
        due.is("the last but one", x.match(339, GET), -9);
        due.is("for no END of a VERB", x.match(0, 3), -9);
        due.is("without ROUTES", new RoutesByTries().match(340, 3), -9);
        due.is("by MOUNTS alone", Due.told("m01;m12;m02;").match(0, GET), -9);
        due.is("by ENDS of a ROUTER that is no MOUNT", Due.told("r10/*;r20/*;").match(0, GET), -9);
    }

    private static void boundBringsNothing() {
        due.by("13: -3 it brings nothing");
        RoutesByTries x = Due.told("r00/:0;");
        due.is("bound(a, GET, 0)", x.bound(1, GET, 0), 0);
        due.is("bound(a, PUT, 0)", x.bound(1, 2, 0), -3);
        due.is("bound of the empty PATH", x.bound(0, GET, 5), -3);
        due.is("bound of too long a PATH", x.bound(5, GET, 4), -3);
        due.by("13: the LETTER of that PARAMETER (-9), 4 REST (-9 none)");
        for (int what = 1; what <= 4; what++) {
            due.is("bound(a, GET, " + what + ")", x.bound(1, GET, what), -9);
        }
        due.is("MOUNTS on the way", x.bound(1, GET, 5), 0);
    }

    private static void looked() {
        due.by("14: LOOKED: how many NODES were LOOKED at (a NODE as often as it was)");
        RoutesByTries x = new RoutesByTries();
        due.is("the ROOT alone", x.looked(340, GET), 1);
        RoutesByTries y = Due.told("m01;m01;m01;m12;m12;k020;k120;");
        due.is("a NODE as often", y.looked(0, GET), 1 + 6 * (1 + 4));
        RoutesByTries z = Due.told("r00/a/a/a/a;r00/a/<0/:1/b;r00/:0/a/a/c;");
        due.is("each that was gone back from", z.looked(Due.path("aaad"), GET), 9);
        due.is("till one brings an END", z.looked(Due.path("aaaa"), GET), 5);
        due.is("for a VERB without END, too", z.looked(Due.path("aaaa"), 2), 10);
    }

    private static void verbs() {
        due.by("15: VERBS (bits): those for which it brings an END");
        String[] tables = {"k000;", "r00;", "r01;", "r02;", "r03;", "r01;r02;", "r00;r02;", "r00/a;"};
        int[] want = {0, 3, 2, 4, 15, 6, 7, 0};
        for (int i = 0; i < tables.length; i++) {
            due.is("verbs(0) of " + tables[i], Due.told(tables[i]).verbs(0), want[i]);
        }
        due.is("verbs(340)", Due.told("r03/*;").verbs(340), 15);
    }

    private static void brought() {
        due.by("16: of an END by all PATHS (with its own VERB; ALL: with GET): how many bring it; the least; -9");
        String[] tables = {"r00/*;", "r00/d/d/d/d;", "r00;", "r00/:0/:1/:2/:3;", "r10/*;", "r01/*;", "r02/*;", "r03/*;"};
        int[] many = {341, 1, 1, 256, 0, 341, 341, 341};
        int[] least = {0, 340, 0, 85, -9, 0, 0, 0};
        for (int i = 0; i < tables.length; i++) {
            due.is("brought(0, 0) of " + tables[i], Due.told(tables[i]).brought(0, 0), many[i]);
            due.is("brought(0, 1) of " + tables[i], Due.told(tables[i]).brought(0, 1), least[i]);
        }
        due.by("16: ALL: with GET");
        RoutesByTries x = Due.told("r00/:0;r03/:0;r02/a/*;r03/a/*;");
        due.is("ALL behind GET", x.brought(1, 0), 0);
        due.is("its least", x.brought(1, 1), -9);
        due.is("ALL behind PUT", x.brought(3, 0), 85);
        due.is("its least", x.brought(3, 1), 1);
    }

    private static void never() {
        due.by("17: ENDS (bits) that no PATH brings so");
        due.is("without ROUTES", new RoutesByTries().never(), 0);
        due.is("of MOUNTS alone", Due.told("m01;m12;").never(), 0);
        due.is("ten, and none brought", Due.told("r10;".repeat(10)).never(), 1023);
        due.is("ten, and the first brought", Due.told("r00;".repeat(10)).never(), 1022);
        due.is("the empty PATH", Due.told("r00;").never(), 0);
        due.is("the last PATH", Due.told("r00/d/d/d/d;").never(), 0);
        due.is("too far behind a MOUNT", Due.told("m01/a;r10/a/a/a/a;r10/a/a/a;").never(), 2);
        due.is("each by its own VERB", Due.told("r00;r01;r02;r03;r03/a;r00/b;r01/b;r02/b;r03/c;r01;").never(), 0b1001001010);
        RoutesByTries x = Due.told("r00;r00;");
        x.drops(1);
        due.is("not one that is not THERE", x.never(), 0);
        x.verb(0, 3);
        due.is("ALL by GET", x.never(), 0);
        due.is("ALL by PUT, but not by GET", Due.told("r00;r03;").never(), 2);
    }

    private static void matched() {
        due.by("18: how many PATHS bring an END for a VERB");
        String[] tables = {"k000;", "r03/*;", "r03;", "r03/d/d/d/d;", "r03/:0/*;", "r03/:0/:1/:2/:3;", "r13/*;", "m02;r23/*;"};
        int[] want = {0, 341, 1, 1, 340, 256, 0, 341};
        for (int i = 0; i < tables.length; i++) {
            for (int verb = 0; verb <= 3; verb++) {
                due.is("matched(" + verb + ") of " + tables[i], Due.told(tables[i]).matched(verb), want[i]);
            }
        }
    }

    private static void witnesses(String table, String least) {
        RoutesByTries x = Due.told(table);
        int want = least == null ? -9 : Due.path(least);
        due.is("witness(0, 1) of " + table, x.witness(0, 1), want);
        due.is("witness(1, 0) of " + table, x.witness(1, 0), want);
    }

    private static void witness() {
        due.by("19: WITNESS of two ROUTES: the least PATH both take; -9");
        witnesses("r00;r00;", "");
        witnesses("r00;r00/a;", null);
        witnesses("r00;r00/*;", "");
        witnesses("r00/*;r00/*;", "");
        witnesses("r00/a/*;r00/*;", "a");
        witnesses("r00/a/*;r00/b/*;", null);
        witnesses("r00/<0;r00/>0;", null);
        witnesses("r00/<0;r00/:0;", "a");
        witnesses("r00/>0;r00/:0;", "c");
        witnesses("r00/:0;r00/:1;", "a");
        witnesses("r00/b;r00/<3;", "b");
        witnesses("r00/c;r00/<3;", null);
        witnesses("r00/d/d/d/d;r00/:0/:1/:2/:3;", "dddd");
        witnesses("r00/d/d/d/d;r00/d/d/d/*;", "dddd");
        witnesses("r00/d/d/d/d;r00/d/d/d/c;", null);
        witnesses("r00/:0/a;r00/b/:0;", "ba");
        due.by("19: a ROUTE by itself, from its ROUTER's ROOT");
        witnesses("r00/a;r10/a;", "a");
        witnesses("r02/a;r21/:0;", "a");
        witnesses("m01/b;r10/a;", null);
        RoutesByTries x = Due.told("r00/a;r00/:0;r00/a;");
        due.is("though another brings it", x.witness(1, 2), 1);
    }

    private static void witnessOfMounts() {
        due.by("19: a MOUNT: all that begins so");
        witnesses("m01;m02;", "");
        witnesses("m01;r00;", "");
        witnesses("m01;r00/d/d/d/d;", "dddd");
        witnesses("m01/a;r00;", null);
        witnesses("m01/a;r00/a;", "a");
        witnesses("m01/a;r00/b;", null);
        witnesses("m01/a;m12/a/b;", "ab");
        witnesses("m01/>0;m12/:2/:1/b;", "cab");
        witnesses("m01/a/b/c/d;m02/a;", "abcd");
        witnesses("m01/:0/:1/:2/d;r00/c/*;", "caad");
    }

    private static void clashes(String table, int many, int least) {
        RoutesByTries x = Due.told(table);
        due.is("clash(0) of " + table, x.clash(0), many);
        due.is("clash(1) of " + table, x.clash(1), least);
    }

    private static void clash() {
        due.by("20: twos of ENDS of one ROUTER with alike SEGMENTS but for PARAMETERS: how many such twos; the least END; -9");
        clashes("k000;", 0, -9);
        clashes("r00;", 0, -9);
        clashes("r00;r00;", 1, 0);
        clashes("r00;".repeat(10), 45, 0);
        clashes("r00/a;r00/b;r00/c;r00/d;r00/<0;r00/>0;r00/:0;r00/*;r00;r00/a/*;", 0, -9);
        clashes("r00/a;r10/a;r20/a;", 0, -9);
        clashes("r00;r10;r20;r10;r20;", 2, 1);
        clashes("r00/<0/>1/:2/*;r00/<3/>2/:1/*;", 1, 0);
        clashes("r00/<0/>1/:2/*;r00/<3/>2/:1;", 0, -9);
        clashes("r00/a/b/c/d;r00/a/b/c/c;", 0, -9);
        clashes("r00/a/b/c;r00/a/b/c/d;", 0, -9);
        clashes("r00/<0;r00/a;", 0, -9);
        clashes("m01;m01;m02;r00;", 0, -9);
        clashes("r00/b;r00/a;r00/a;", 1, 1);
        RoutesByTries x = Due.told("r00;r00;r00;");
        x.drops(1);
        due.is("of those THERE", x.clash(0), 1);
        x.drops(0);
        due.is("one by itself", x.clash(0), 0);
        due.is("has none", x.clash(1), -9);
    }

    private static void clashOfVerbs() {
        due.by("20: that both serve a VERB");
        int[] served = {0b0011, 0b0010, 0b0100, 0b1111};
        for (int a = 0; a <= 3; a++) {
            for (int b = 0; b <= 3; b++) {
                boolean both = (served[a] & served[b]) != 0;
                clashes("r0" + a + "/a;r0" + b + "/a;", both ? 1 : 0, both ? 0 : -9);
            }
        }
    }

    private static void builds(String table, int route, String path, int... p) {
        int want = path == null ? -9 : Due.path(path);
        String call = Calls.told("build", route, p[0], p[1], p[2], p[3]) + " of " + table;
        due.is(call, Due.told(table).build(route, p[0], p[1], p[2], p[3]), want);
    }

    private static void built() {
        due.by("21: BUILT by PARAMETERS a .. d (0 .. 3)");
        builds("r00;", 0, "", 0, 0, 0, 0);
        builds("r00;", 0, "", 3, 3, 3, 3);
        builds("r00/a/b/c/d;", 0, "abcd", 3, 3, 3, 3);
        for (int letter = 0; letter <= 3; letter++) {
            String one = "abcd".substring(letter, letter + 1);
            for (int parameter = 0; parameter <= 3; parameter++) {
                int[] p = {3 - letter, 3 - letter, 3 - letter, 3 - letter};
                p[parameter] = letter;
                builds("r00/:" + parameter + ";", 0, one, p);
                due.by("21: -9 if a LETTER is not as LOW, HIGH want");
                builds("r00/<" + parameter + ";", 0, letter <= 1 ? one : null, p);
                builds("r00/>" + parameter + ";", 0, letter >= 2 ? one : null, p);
            }
        }
        builds("r00/:0/:1/:2/<3;", 0, null, 0, 0, 0, 2);
        due.by("21: REST takes nothing");
        builds("r00/*;", 0, "", 3, 3, 3, 3);
        builds("r00/a/b/:3/*;", 0, "abd", 0, 0, 0, 3);
    }

    private static void builtByTheWay() {
        due.by("21: -9, if it is longer than 4");
        builds("m01/a;r10/a/b/c;", 1, "aabc", 0, 0, 0, 0);
        builds("m01/a;r10/a/b/c/d;", 1, null, 0, 0, 0, 0);
        builds("m01/a;r10/a/b/c/*;", 1, "aabc", 0, 0, 0, 0);
        builds("m01/a/b;m12/c/d;r20;", 2, "abcd", 0, 0, 0, 0);
        builds("m01/a/b;m12/c/d;r20/*;", 2, "abcd", 0, 0, 0, 0);
        builds("m01/a/b;m12/c/d;r20/:0;", 2, null, 0, 0, 0, 0);
        builds("m01/a/b/c/d;m12;r20;", 2, "abcd", 0, 0, 0, 0);
        builds("m01/a/b/c/d;m12/a;r20;", 2, null, 0, 0, 0, 0);
        due.by("21: -9 without a WAY");
        builds("r10;", 0, null, 0, 0, 0, 0);
        builds("r20;m01;", 0, null, 0, 0, 0, 0);
        builds("r20;m12;", 0, null, 0, 0, 0, 0);
        builds("r10;m02;", 0, null, 0, 0, 0, 0);
        due.by("21: the least MOUNT of it that is itself in a ROUTER with a WAY");
        builds("r20;m12/a;m02/b;m02/c;", 0, "b", 0, 0, 0, 0);
        builds("r20;m12/a;m02/b;m01/d;", 0, "da", 0, 0, 0, 0);
        builds("r20;m02/b;m12/a;m01/d;", 0, "b", 0, 0, 0, 0);
        builds("r10;m01/c;m01/b;m02;", 0, "c", 0, 0, 0, 0);
        builds("r20;r00;r00;r00;r00;r00;r00;m12/a;m12/b;m01/c;", 0, "ca", 0, 0, 0, 0);
        RoutesByTries x = Due.told("r20;m01/d;m12/a;m02/b;");
        x.drops(1);
        due.is("a dropped MOUNT is no WAY", x.build(0, 0, 0, 0, 0), 2);
        due.by("21: of a MOUNT's PARAMETERS, LOW and HIGH, too");
        builds("m01/<0/:1;r10/>0;", 1, null, 0, 1, 0, 0);
        builds("m01/<0/:1;r10/>2;", 1, "bdc", 1, 3, 2, 0);
        builds("m01/<0/:1;r10/>2;", 1, null, 2, 3, 2, 0);
        builds("m01/:0;r10/:0;", 1, "cc", 2, 0, 0, 0);
    }

    private static void backs(String table, int route, int many) {
        due.is("back(" + route + ") of " + table, Due.told(table).back(route), many);
    }

    private static void back() {
        due.by("22: of all (256) PARAMETERS how many BUILD a PATH that brings this END (by its VERB, ALL: GET)");
        backs("r00;", 0, 256);
        backs("r02/*;", 0, 256);
        backs("r00;r00;", 1, 0);
        backs("r10;", 0, 0);
        backs("m01/a;r10/a/b/c/d;", 1, 0);
        for (int parameter = 0; parameter <= 3; parameter++) {
            backs("r00/:" + parameter + ";", 0, 256);
            backs("r00/<" + parameter + ";", 0, 128);
            backs("r00/>" + parameter + ";", 0, 128);
            backs("r00/d;r00/:" + parameter + ";", 1, 192);
            backs("r02/d;r00/:" + parameter + ";", 1, 256);
        }
        backs("r00/:0/:1/:2/:3;r00/a/b/c/d;", 0, 255);
        backs("r00/:3/:2/:1/:0;r00/d/d/d/d;", 0, 255);
        backs("r00/<0/<1/>2/>3;", 0, 16);
        due.by("22: ALL: GET");
        backs("r02/:0;r03/:0;", 1, 256);
        backs("r00/:0;r03/:0;", 1, 0);
        backs("r01/:0;r03/:0;", 1, 256);
        due.by("22: what is not BUILT brings nothing, though the empty PATH brings this END");
        backs("m01/<0;m01;r10/*;", 2, 128);
        backs("m01/a/b/c/d;m01;r10/:0;r10/*;", 2, 0);
    }

    private static void without() {
        due.by("23: WITHOUT a ROUTE: what a PATH and a VERB bring; -9");
        RoutesByTries x = Due.told("r00;m01/a;r10;r02/*;r00/d/d/d/d;");
        due.is("without the only one", x.without(0, 0, GET), -9);
        due.is("without another", x.without(4, 0, GET), 0);
        due.is("without the MOUNT", x.without(1, 1, GET), -9);
        due.is("without the END behind", x.without(2, 1, GET), -9);
        due.is("with it", x.without(0, 1, GET), 2);
        due.is("the last PATH", x.without(4, 340, GET), -9);
        due.is("by PUT", x.without(0, 0, 2), 3);
        due.is("THERE all the same", x.count(1), 31);
        due.is("and brought", x.match(0, GET), 0);
    }

    private static void withoutNodes() {
        due.by("23: its NODES are not there either, as a STRICT ROUTER feels");
        for (String kind : new String[] {"k040;", "k059;"}) {
            RoutesByTries x = Due.told("r00/a/b;r00/*;" + kind);
            due.is("with it", x.match(1, GET), -9);
            due.is("without", x.without(0, 1, GET), 1);
            due.is("without a later one", Due.told("r00/*;r00/a/b;" + kind).without(1, 1, GET), 0);
            RoutesByTries y = Due.told("r00/a/b;m01/a/c;r00/*;" + kind);
            due.is("a NODE of two stays", y.without(0, 1, GET), -9);
            due.is("whichever goes", y.without(1, 1, GET), -9);
        }
    }

    private static void bests(String table, int router, int kind) {
        due.is("best(" + router + ") of " + table, Due.told(table).best(router), kind);
    }

    private static void best() {
        due.by("24: most PATHS are MATCHED by GET, of several with least LOOKED at, of several the least");
        bests("k000;", 0, 0);
        bests("k059;", 0, 0);
        bests("r00/*;", 0, 0);
        bests("r00/*;r00/a;k030;", 0, 3);
        bests("r00/a/b;r00/:0/b;", 0, 4);
        bests("r00/a/b;r00/:0/c;", 0, 0);
        bests("r00/<0/a;r00/:0/a;r00/:0/b;", 0, 1);
        bests("m01;r10/*;r00/a/a/a/a;", 0, 2);
        bests("r10/*;r10/a;", 1, 0);
        bests("m01;r10/*;r10/a;", 1, 3);
        due.by("24: FIGURE as it is");
        bests("r00/a;", 0, 0);
        bests("r00/a;k001;", 0, 5);
        bests("r00/a;k002;", 0, 5);
        bests("r00/a/b/c/d;k004;", 0, 0);
        bests("r00/a;k029;", 0, 0);
        due.by("24: MATCHED by GET, LOOKED at by GET");
        bests("r01/a;", 0, 5);
        bests("r01/*;r00/a/a;k009;", 0, 0);
        due.by("24: with least LOOKED at by all PATHS, where none is MATCHED by any KIND, too");
        bests("r02/a;", 0, 5);
        bests("r02/a;k009;", 0, 0);
        bests("m01;", 0, 5);
        bests("m01;k004;", 0, 0);
        bests("r02/a/b;r02/:0/b;k009;", 0, 4);
    }

    private static void lostIs(RoutesByTries x, int path, int verb, int t, long above, long below) {
        due.is("lost(" + path + ", " + verb + ", " + t + ", 0)", x.lost(path, verb, t, 0), above);
        due.is("lost(" + path + ", " + verb + ", " + t + ", 1)", x.lost(path, verb, t, 1), below);
    }

    private static void lost() {
        due.by("25: with odds 1 in t (2 .. 20); 0 by 1 above 0; in least terms");
        RoutesByTries x = Due.told("r00/a;r02/d/d/d/d;");
        lostIs(x, 1, GET, 2, 1, 2);
        lostIs(x, 1, GET, 3, 2, 3);
        lostIs(x, 1, GET, 19, 18, 19);
        lostIs(x, 1, GET, 20, 19, 20);
        lostIs(x, 340, 2, 20, 19, 20);
        lostIs(x, 340, GET, 20, 0, 1);
        lostIs(x, 0, GET, 2, 0, 1);
        lostIs(new RoutesByTries(), 0, 3, 20, 0, 1);
        RoutesByTries two = Due.told("r00;r00;");
        lostIs(two, 0, GET, 2, 3, 4);
        lostIs(two, 0, GET, 4, 15, 16);
        lostIs(Due.told("m01;r10;"), 0, GET, 4, 9, 16);
        lostIs(Due.told("m01;r10;r00/*;"), 0, GET, 4, 57, 64);
        due.by("25: the greatest fractions");
        lostIs(Due.told("r00;".repeat(6)), 0, GET, 20, 63999999, 64000000);
        lostIs(Due.told("m01;m12;r20;r20;r20;r20;"), 0, GET, 20, 57759639, 64000000);
    }

    private static void lostRoutes() {
        due.by("25: each of ROUTES 0 .. 5 THERE");
        for (int number = 0; number <= 9; number++) {
            RoutesByTries x = Due.told("r10;".repeat(number) + "r00;");
            lostIs(x, 0, GET, 2, 1, number <= 5 ? 2 : 1);
        }
        RoutesByTries x = Due.told("r00;r00;r00/a;r00;");
        x.drops(0);
        lostIs(x, 0, GET, 2, 3, 4);
        x.drops(1);
        lostIs(x, 0, GET, 2, 1, 2);
        x.drops(3);
        lostIs(x, 0, GET, 2, 0, 1);
        due.by("25: NODES that only a lost one had are not there");
        RoutesByTries y = Due.told("r00/a/b;r00/*;k040;");
        lostIs(y, 1, GET, 3, 2, 9);
        due.is("all is THERE behind it", y.match(Due.path("ab"), GET), 0);
    }

    private static void means(String table, int verb, long above, long below) {
        RoutesByTries x = Due.told(table);
        due.is("mean(" + verb + ", 0) of " + table, x.mean(verb, 0), above);
        due.is("mean(" + verb + ", 1) of " + table, x.mean(verb, 1), below);
    }

    private static void mean() {
        due.by("26: LOOKED at by all PATHS (a VERB) by how many they are: a fraction in least terms");
        means("k000;", 3, 1, 1);
        means("m01;m02;", 0, 3, 1);
        means("m01;m12;k020;k120;", 1, 7, 1);
        means("r00/d/d/d/d;", 0, 341 + 85 + 21 + 5 + 1, 341);
        means("r00/:0/:1/:2/:3;", 0, 341 + 340 + 336 + 320 + 256, 341);
        means("r00/*;r00/a;", 0, 426, 341);
        due.by("26: for another VERB another one");
        means("m01;r00/*;", 0, 1, 1);
        means("m01;r00/*;", 1, 1, 1);
        means("m01;r00/*;", 2, 2, 1);
        means("m01;r00/*;", 3, 2, 1);
        due.by("26: in least terms: 341 is 11 times 31");
        means("r00/a/a/a;r00/a/a/b;r00/a/a/c;", 0, 42, 31);
        means("r00/a/a/a/a;r00/a/a/b/a;r00/a/a/c/a;", 2, 15, 11);
    }

    private static void rows(RoutesByTries x, int... numbers) {
        x.clear();
        for (int number : numbers) {
            x.row(number);
        }
    }

    private static void whatIsKinds() {
        due.by("27: KINDS (bits) by which, FIGURE as it is, all of it is so (of none all is so)");
        RoutesByTries x = Due.told("r00/a/b;r00/<0/:1;r00/:0/*;r00/*;");
        due.is("of none", x.whatIs(0, 0), 63);
        rows(x, 99);
        due.is("not so by any", x.whatIs(0, 0), 0);
        rows(x, 3);
        due.is("so by all", x.whatIs(0, 0), 63);
        rows(x, 3, 3);
        due.is("GREEDY", x.whatIs(0, 0), 1 << 3);
        rows(x, 3, 99, 99, 99);
        due.is("SHORT by FIGURE 0", x.whatIs(0, 0), 1 << 5);
        x.kind(0, 0, 1);
        due.is("not by FIGURE 1", x.whatIs(0, 0), 0);
        rows(x, 3, 99, 99, 2);
        due.is("STRICT, and SHORT by FIGURE 1", x.whatIs(0, 0), 1 << 4 | 1 << 5);
        int[] most = {3, 2, 2, 2, 2, 1, 0, 1, 1, 1, 1, 1, 1, 2, 2, 2, 2, 2, 2, 2, 2, 2, 2, 2, 2, 2, 2, 2, 2, 2};
        rows(x, most);
        due.is("thirty", x.count(5), 30);
        due.is("PLAIN, EARLY by thirty", x.whatIs(0, 0), 1 | 1 << 2);
        most[29] = 3;
        rows(x, most);
        due.is("the thirtieth not so", x.whatIs(0, 0), 0);
        due.is("it stays", x.count(5), 30);
        rows(x, 0);
        due.is("not so from the first on, the ROW told by 0", x.whatIs(0, 0), 0);
        due.by("27: by GET (99: nothing)");
        RoutesByTries y = Due.told("r01/*;r02/*;");
        rows(y, 99, 99);
        due.is("nothing by GET, though HEAD and PUT bring an END", y.whatIs(0, 0), 63);
        due.is("by every FIGURE", y.whatIs(0, 1), 1023);
        rows(y, 0);
        due.is("what HEAD brings", y.whatIs(0, 0), 0);
        rows(y, 1);
        due.is("what PUT brings", y.whatIs(0, 1), 0);
    }

    private static void whatIsFigures() {
        due.by("27: FIGURES (bits 0 .. 9) by which, KIND as it is");
        RoutesByTries x = Due.told("r00/*;");
        due.is("of none", x.whatIs(0, 1), 1023);
        rows(x, 99);
        due.is("by no FIGURE", x.whatIs(0, 1), 0);
        int[] longest = {0, 1, 5, 21};
        int[] upTo = {0, 1, 2, 3};
        x.kind(0, 5, 9);
        for (int i = 0; i < longest.length; i++) {
            x.clear();
            for (int path = 0; path <= longest[i]; path++) {
                x.row(0);
            }
            due.is("SHORT, paths to " + longest[i], x.whatIs(0, 1), 1023 & -(1 << upTo[i]));
            if (i < 3) {
                x.clear();
                for (int path = 0; path <= longest[i + 1]; path++) {
                    x.row(path < longest[i + 1] ? 0 : 99);
                }
                due.is("SHORT, but for " + longest[i + 1], x.whatIs(0, 1), 1 << i);
            }
        }
        due.is("FIGURE as it was", x.kind(0, 4, 7), 59);
        rows(x, 0, 0);
        due.is("a STRICT one, by any", x.whatIs(0, 1), 1023);
        due.is("of another ROUTER, by any", x.whatIs(2, 1), 1023);
        due.is("KIND and FIGURE as they were", x.kind(0, 0, 0), 47);
    }

    private static void askedByAll() {
        due.by("VERBS: 3 ALL, asked for as any other");
        RoutesByTries x = Due.told("r00/:1;r03/:0;r03/*;");
        due.is("bound(b, ALL, 0)", x.bound(2, 3, 0), 1);
        due.is("bound(b, ALL, 1)", x.bound(2, 3, 1), -9);
        due.is("bound(bb, ALL, 4)", x.bound(Due.path("bb"), 3, 4), 2);
        due.is("without(1, b, ALL)", x.without(1, 2, 3), 2);
        due.is("without(2, b, ALL)", x.without(2, 2, 3), 1);
        due.is("without(2, bb, ALL)", x.without(2, Due.path("bb"), 3), -9);
        lostIs(x, 2, 3, 2, 3, 4);
    }

    /** What calls changed is what the next ones tell of. */
    private static void behindChanges() {
        due.by("20: CLASH behind VERBS changed and ROUTES copied");
        RoutesByTries x = Due.told("r00/a;r02/a;");
        due.is("clash(0)", x.clash(0), 0);
        x.verb(1, 0);
        due.is("clash(0) behind a verb", x.clash(0), 1);
        x.copies(0, 1);
        x.copies(1, 1);
        due.is("clash(0) behind copies", x.clash(0), 2);
        x.drops(0);
        due.is("clash(1) behind a drop", x.clash(1), 2);
        due.by("21: the WAY by a MOUNT copied");
        RoutesByTries y = Due.told("m01/b;r10;");
        y.copies(0, 0);
        y.drops(0);
        due.is("build by the copy", y.build(1, 0, 0, 0, 0), 2);
        due.is("back by the copy", y.back(1), 256);
        due.by("24: BEST leaves the KIND as it is");
        RoutesByTries z = Due.told("r00/*;r00/a;k010;");
        z.image();
        z.kind(0, 3, 0);
        due.is("best(0)", z.best(0), 3);
        due.is("match(a) by GREEDY", z.match(1, GET), 0);
        z.kind(0, 4, 0);
        due.is("best(0) of a STRICT one", z.best(0), 3);
        due.is("match(a) by STRICT", z.match(1, GET), 1);
        due.is("KIND as it was", z.kind(0, 0, 0), 40);
    }

    /** What is asked changes nothing, whatever it answers. */
    private static void nothingChanges() {
        due.by("nothing is described that would change by a question");
        Twins some = new Twins(due, "some", AnswersEdgeTest::make);
        for (int router = 0; router <= 2; router++) {
            some.leave("nodes", router);
            some.leave("best", router);
        }
        some.leave("never");
        some.leave("matched", 3);
        for (int two = 0; two <= 1; two++) {
            some.leave("clash", two);
            some.leave("brought", 0, two);
            some.leave("mean", 2, two);
            some.leave("lost", 1, GET, 20, two);
            some.leave("whatIs", 0, two);
            some.leave("whatIs", 1, two);
            some.leave("lots", 200, Integer.MIN_VALUE, two);
        }
        some.leave("route", 0, 5);
        some.leave("segment", 0, 1);
        some.leave("letterOf", 340, 3);
        some.leave("match", 340, 3);
        some.leave("bound", 6, GET, 0);
        some.leave("looked", 340, 3);
        some.leave("verbs", 340);
        some.leave("witness", 0, 2);
        some.leave("build", 0, 1, 2, 3, 0);
        some.leave("back", 3);
        some.leave("without", 2, 6, GET);
        some.leave("count", 16);
        some.answer(-9, "count", 99);
        some.answer(-9, "match", 0, 2);
    }

    private static void make(RoutesByTries x) {
        Due.tell(x, "r00/a/:0;r00/d;m01/b;r13/:1/*;m12/c;r21/d;x1;k023;k151;");
        x.image();
        Due.tell(x, "r00/d;");
        for (int path = 0; path <= 4; path++) {
            x.row(path == 4 ? 6 : 99);
        }
        x.letter('x');
        x.letter('0');
        x.letter(';');
    }
}
