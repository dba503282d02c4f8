import java.math.BigInteger;

/** The bounds that promises 1 to 11 and 28 to 34 name: what changes, what a ROUTE is, ROW, LOTS, IMAGE, counts. */
public final class ChangesEdgeTest {
    private static final Due due = new Due("ChangesEdgeTest");
    private static final int GET = 0;

    public static void main(String[] args) {
        newObject();
        letter();
        table();
        kind();
        verb();
        drops();
        copies();
        route();
        segment();
        nodes();
        letterOf();
        row();
        judge();
        clear();
        lots();
        lotsBySeed();
        manyLots();
        image();
        on();
        count();
        due.end();
    }

    private static void newObject() {
        due.by("1: No ROUTES; all ROUTERS PLAIN");
        RoutesByTries x = new RoutesByTries();
        int[] counts = {0, 0, 0, 0, 3, 0, 0};
        for (int what = 0; what < counts.length; what++) {
            due.is("count(" + what + ")", x.count(what), counts[what]);
        }
        due.refusals("new", x, 0, 0, 0, 0, 0, 0);
        for (int path = 0; path <= 340; path += 85) {
            due.is("verbs(" + path + ")", x.verbs(path), 0);
            due.is("match(" + path + ")", x.match(path, GET), -9);
            due.is("looked(" + path + ")", x.looked(path, GET), 1);
        }
        due.is("never", x.never(), 0);
        due.is("matched", x.matched(3), 0);
        due.is("clash(0)", x.clash(0), 0);
        due.is("clash(1)", x.clash(1), -9);
        due.is("mean above", x.mean(0, 0), 1);
        due.is("mean below", x.mean(0, 1), 1);
        due.is("lost above", x.lost(0, 0, 20, 0), 0);
        due.is("lost below", x.lost(0, 0, 20, 1), 1);
        due.is("lots(200, 1, 0)", x.lots(200, 1, 0), 0);
        due.is("lots(200, 1, 1)", x.lots(200, 1, 1), 200);
        for (int router = 0; router <= 2; router++) {
            due.is("nodes", x.nodes(router), 1);
            due.is("best", x.best(router), 0);
            due.is("whatIs kinds", x.whatIs(router, 0), 63);
            due.is("whatIs figures", x.whatIs(router, 1), 1023);
            due.is("kind", x.kind(router, 0, 0), 0);
        }
        due.is("judge", x.judge(3), -9);
        due.is("clear", x.clear(), 0);
        due.is("image", x.image(), 0);
        due.refusals("new, asked", x, 0, 0, 0, 0, 0, 0);
    }

    private static void letter() {
        due.by("2: A letter (0 .. 255) comes: how many there are");
        for (int first = 0; first < 256; first += 64) {
            RoutesByTries x = new RoutesByTries();
            for (int i = 0; i < 64; i++) {
                due.is("letter(" + (first + i) + ")", x.letter(first + i), i + 1);
            }
            due.is("count(6)", x.count(6), 64);
        }
        due.by("2: -6 (96, too)");
        RoutesByTries x = new RoutesByTries();
        for (int i = 1; i <= 96; i++) {
            due.is("letter, the " + i + "th", x.letter(';'), i);
        }
        due.is("letter, the 97th", x.letter(';'), -6);
        due.is("letter, once more", x.letter(0), -6);
        due.is("count(6)", x.count(6), 96);
        due.is("count(16)", x.count(16), 2);
    }

    private static void table() {
        due.by("3: how many STATEMENTS; the FAULT (nothing is counted)");
        RoutesByTries x = new RoutesByTries();
        due.is("one", Due.tell(x, "r00;"), 1);
        due.is("of form", Due.tell(x, "r00;r"), -1005);
        due.is("of sense", Due.tell(x, "r00;m00;"), -2004);
        due.is("at the first letter", Due.tell(x, "*"), -1000);
        due.is("at the first statement", Due.tell(x, "x7;"), -2000);
        due.refusals("faults", x, 0, 0, 0, 0, 0, 0);
        due.is("came", x.count(0), 1);
    }

    private static void kind() {
        due.by("4: 10 times the KIND and the FIGURE that were");
        for (int router = 0; router <= 2; router++) {
            RoutesByTries x = new RoutesByTries();
            int before = 0;
            for (int i = 59; i >= 0; i--) {
                due.is("kind(" + router + ", " + i / 10 + ", " + i % 10 + ")", x.kind(router, i / 10, i % 10), before);
                before = i;
            }
            for (int other = 0; other <= 2; other++) {
                due.is("kind of " + other, x.kind(other, 0, 0), 0);
            }
        }
    }

    private static void verb() {
        due.by("5: VERB of an END becomes that: the old");
        for (int old = 0; old <= 3; old++) {
            for (int verb = 0; verb <= 3; verb++) {
                RoutesByTries x = Due.told("r00;r0" + old + "/a;r00;");
                due.is("verb(1, " + verb + ") of " + old, x.verb(1, verb), old);
                due.is("route(1, 1)", x.route(1, 1), verb);
                due.is("route(0, 1)", x.route(0, 1), 0);
                due.is("route(2, 1)", x.route(2, 1), 0);
                due.is("verbs(a)", x.verbs(1), new int[] {3, 2, 4, 15}[verb]);
            }
        }
    }

    private static void drops() {
        due.by("6: DROPPED: how many ROUTES are THERE");
        RoutesByTries x = Due.told("r00;".repeat(10));
        for (int i = 9; i >= 0; i--) {
            due.is("drops(" + i + ")", x.drops(i), i);
            due.is("drops(" + i + ") again", x.drops(i), -1);
            due.is("there", x.count(1), (1 << i) - 1);
        }
        due.is("came", x.count(0), 10);
        due.is("nobody", x.count(11), 10);
    }

    private static void copies() {
        due.by("7: A ROUTE more with SEGMENTS, VERB (of a MOUNT what it MOUNTS) of another one in a ROUTER: its number");
        RoutesByTries x = Due.told("r13/d/<3/:0/*;r22;m02/>1/a;");
        int[] from = {0, 1, 2, 2, 0, 1, 3};
        int[] into = {1, 0, 1, 0, 2, 2, 0};
        for (int i = 0; i < from.length; i++) {
            int copy = 3 + i;
            due.is("copies(" + from[i] + ", " + into[i] + ")", x.copies(from[i], into[i]), copy);
            due.is("its router", x.route(copy, 0), into[i]);
            for (int what = 1; what <= 5; what++) {
                due.is("route(" + copy + ", " + what + ")", x.route(copy, what), x.route(from[i], what));
            }
            int many = x.route(copy, 3);
            for (int j = 0; j < many; j++) {
                due.is("segment(" + copy + ", " + j + ")", x.segment(copy, j), x.segment(from[i], j));
            }
        }
        due.by("7: -6, behind -3 a MOUNT of no greater one");
        due.is("ten are there", x.copies(0, 0), -6);
        due.is("a mount into what it mounts", x.copies(2, 2), -3);
        due.by("7: of what is copied each is by itself");
        x.verb(0, 0);
        due.is("the copy's verb", x.route(3, 1), 3);
        x.drops(2);
        due.is("the copy is there", x.route(5, 2), 2);
    }

    private static void route() {
        due.by("8: Of a ROUTE: VERB (a MOUNT -9), the ROUTER it MOUNTS (an END -9), SEGMENTS, PARAMETERS (bits), REST");
        String[] tables = {"r00;", "r23/*;", "m01;", "m12/a/b/c/d;", "r12/<0/>1/:2/<3;", "m02/:3;", "r01/:1/:0/a/*;"};
        int[][] want = {{0, 0, -9, 0, 0, 0}, {2, 3, -9, 1, 0, 1}, {0, -9, 1, 0, 0, 0}, {1, -9, 2, 4, 0, 0},
            {1, 2, -9, 4, 15, 0}, {0, -9, 2, 1, 8, 0}, {0, 1, -9, 4, 3, 1}};
        for (int i = 0; i < tables.length; i++) {
            RoutesByTries x = Due.told(tables[i]);
            for (int what = 0; what <= 5; what++) {
                due.is("route(0, " + what + ") of " + tables[i], x.route(0, what), want[i][what]);
            }
        }
    }

    private static void segment() {
        due.by("9: a LETTER 0 .. 3, LOW 10 and the PARAMETER, HIGH 20, ANY 30 and it, REST 40");
        for (int parameter = 0; parameter <= 3; parameter++) {
            char letter = "abcd".charAt(parameter);
            RoutesByTries x = Due.told("r00/" + letter + "/<" + parameter + ";r00/>" + parameter + ";r00/a/b/:" + parameter + "/*;");
            due.is("letter", x.segment(0, 0), parameter);
            due.is("low", x.segment(0, 1), 10 + parameter);
            due.is("high", x.segment(1, 0), 20 + parameter);
            due.is("any", x.segment(2, 2), 30 + parameter);
            due.is("rest", x.segment(2, 3), 40);
        }
        due.by("9: -1 either");
        RoutesByTries x = Due.told("r00;r00/a/a/a/a;m01;");
        due.is("of none", x.segment(0, 0), -1);
        due.is("of a mount's none", x.segment(2, 0), -1);
        due.is("the last", x.segment(1, 3), 0);
        due.is("behind the last", x.segment(1, 4), -1);
    }

    private static void nodes() {
        due.by("10: How many NODES its TRIE has (the ROOT, too; no NODES by REST)");
        RoutesByTries x = Due.told("r00/*;r10/a/*;r20/a/b/c/d;");
        int[] want = {1, 2, 5};
        for (int router = 0; router <= 2; router++) {
            due.is("nodes(" + router + ")", x.nodes(router), want[router]);
        }
        due.is("of all TRIES", x.count(4), 8);
        RoutesByTries y = Due.told("r00/a/a/a/a;");
        String[] more = {"b", "c", "d", "<0", ">0", ":0"};
        for (int i = 0; i < more.length; i++) {
            Due.tell(y, "r00/" + more[i] + "/a/a/a;");
            due.is("nodes behind " + more[i], y.nodes(0), 5 + 4 * (i + 1));
        }
        due.is("three more", Due.tell(y, "r20/a/a/a/a;r20/b/a/a/a;r20/c/a/a/a;"), 3);
        due.is("the most there may be", y.count(4), 43);
        due.is("the last of them", y.nodes(2), 13);
        Due.tell(y, "x0;x1;x2;x3;x4;x5;x6;");
        due.is("the ROOTS and what is left", y.count(4), 15);
    }

    private static void letterOf() {
        due.by("11: The i-th LETTER of a PATH (i -1: how many)");
        RoutesByTries x = new RoutesByTries();
        due.is("of none", x.letterOf(0, -1), 0);
        due.is("the first of none", x.letterOf(0, 0), -1);
        due.is("the last of the last", x.letterOf(340, 3), 3);
        due.is("behind it", x.letterOf(340, 4), -1);
        due.is("ahead of all", x.letterOf(340, -2), -1);
        due.is("of the last", x.letterOf(340, -1), 4);
        due.is("behind the last", x.letterOf(341, -1), -1);
    }

    private static void row() {
        due.by("28: A number more of the ROW (0 .. 99): how many");
        for (int first = 0; first < 100; first += 25) {
            RoutesByTries x = new RoutesByTries();
            for (int i = 0; i < 25; i++) {
                due.is("row(" + (first + i) + ")", x.row(first + i), i + 1);
            }
        }
        due.by("28: -6 (30, too)");
        RoutesByTries x = new RoutesByTries();
        for (int i = 1; i <= 30; i++) {
            due.is("row, the " + i + "th", x.row(99), i);
        }
        due.is("row, the 31st", x.row(99), -6);
        due.is("judged is all but that", x.judge(0), -9);
        due.is("room again", x.row(0), 1);
        due.is("and it counts anew", x.row(99), 2);
    }

    private static void judge() {
        due.by("29: JUDGED: the first that is not so");
        RoutesByTries x = Due.told("r00/a;r02/b;r03/*;");
        int[] byGet = {2, 0, 2, 2, 2, 2};
        for (int wrong = 0; wrong < 30; wrong++) {
            for (int i = 0; i < 30; i++) {
                x.row(i == wrong ? 98 : i < byGet.length ? byGet[i] : 2);
            }
            due.is("judge, wrong at " + wrong, x.judge(0), wrong);
            due.is("the ROW has none then", x.count(5), 0);
            if (wrong % 10 == 9) {
                x = Due.told("r00/a;r02/b;r03/*;");
            }
        }
        due.by("29: -9 (whichever it answers, the ROW has none then)");
        x = Due.told("r00/a;r02/b;r03/*;");
        due.is("of an empty ROW", x.judge(0), -9);
        int[] byPut = {2, 2, 1};
        for (int verb = 0; verb <= 3; verb++) {
            for (int number : verb == 2 ? byPut : byGet) {
                x.row(verb == 3 ? 2 : number);
            }
            due.is("judge(" + verb + ")", x.judge(verb), -9);
            due.is("the ROW has none", x.clear(), 0);
        }
        due.by("29: 99: nothing");
        RoutesByTries none = new RoutesByTries();
        none.row(99);
        none.row(0);
        due.is("nothing is not 0", none.judge(0), 1);
        due.by("29: -2 (the ROW stays)");
        x.row(2);
        x.row(99);
        due.is("judge(4)", x.judge(4), -2);
        due.is("the ROW as it was", x.count(5), 2);
        due.is("judge then", x.judge(0), 1);
    }

    private static void clear() {
        due.by("30: The ROW has none then: how many it had");
        RoutesByTries x = new RoutesByTries();
        for (int many = 0; many <= 30; many += 6) {
            for (int i = 0; i < many; i++) {
                x.row(i);
            }
            due.is("clear of " + many, x.clear(), many);
            due.is("count(5)", x.count(5), 0);
            due.is("clear again", x.clear(), 0);
        }
    }

    private static void lots() {
        due.by("31: n times (1 .. 200)");
        RoutesByTries all = Due.told("r03/*;");
        RoutesByTries none = Due.told("m01;m02;");
        for (int n : new int[] {1, 2, 199, 200}) {
            due.is("lots(" + n + ", 5, 0) of all", all.lots(n, 5, 0), n);
            due.is("lots(" + n + ", 5, 1) of all", all.lots(n, 5, 1), n);
            due.is("lots(" + n + ", 5, 0) of none", none.lots(n, 5, 0), 0);
            due.is("lots(" + n + ", 5, 1) of none", none.lots(n, 5, 1), 3 * n);
        }
        due.by("31: the same seed draws the same");
        RoutesByTries x = Due.told("r00/a/*;r02/:0/*;");
        due.is("lots once more", x.lots(100, -77, 0), x.lots(100, -77, 0));
    }

    /** A DRAW told by numbers without bound: nothing wraps around but where the document says so. */
    private static long[] draws(int many, int seed) {
        BigInteger int32 = BigInteger.TWO.pow(32);
        BigInteger z = BigInteger.valueOf(seed);
        long[] draws = new long[many];
        for (int i = 0; i < many; i++) {
            z = z.multiply(BigInteger.valueOf(1664525)).add(BigInteger.valueOf(1013904223)).mod(int32);
            draws[i] = z.longValue() % (1L << 31) / 256;
        }
        return draws;
    }

    private static void lotsBySeed() {
        due.by("31: z becomes z times 1664525 and 1013904223 (an int); (z without its sign's bit by 256, cut) modulo m");
        int[] seeds = {0, 1, -1, 2, -2, 255, 256, 1290, 1291, -1290, 65535, 1 << 30, -(1 << 30), 0x7fffff00,
            Integer.MAX_VALUE - 1, Integer.MAX_VALUE, Integer.MIN_VALUE, Integer.MIN_VALUE + 1, 1013904223, -1013904223};
        int signs = 0;
        for (int seed : seeds) {
            signs |= seed * 1664525 + 1013904223 < 0 ? 1 : 2;
            long[] draws = draws(2, seed);
            oneLot(seed, (int) (draws[0] % 341), (int) (draws[1] % 4));
        }
        due.is("seeds with and without a sign behind", signs, 3);
    }

    private static void oneLot(int seed, int path, int verb) {
        RoutesByTries x = Due.told("r03" + pattern(path) + ";");
        due.is("lots(1, " + seed + ", 0), its PATH", x.lots(1, seed, 0), 1);
        due.is("lots(1, " + seed + ", 1), its PATH", x.lots(1, seed, 1), 1 + x.letterOf(path, -1));
        RoutesByTries other = Due.told("r03" + pattern((path + 1) % 341) + ";");
        due.is("lots(1, " + seed + ", 0), another PATH", other.lots(1, seed, 0), 0);
        int[] served = {0b0011, 0b0010, 0b0100, 0b1111};
        for (int end = 0; end <= 3; end++) {
            int want = served[end] >> verb & 1;
            due.is("lots(1, " + seed + ", 0), an END of " + end, Due.told("r0" + end + "/*;").lots(1, seed, 0), want);
        }
    }

    private static String pattern(int path) {
        RoutesByTries x = new RoutesByTries();
        StringBuilder text = new StringBuilder();
        int many = x.letterOf(path, -1);
        for (int i = 0; i < many; i++) {
            text.append('/').append((char) ('a' + x.letterOf(path, i)));
        }
        return text.toString();
    }

    private static void manyLots() {
        due.by("31: how many bring an END; LOOKED at, together");
        RoutesByTries x = Due.told("r00/a/*;r02/:0/b/*;r01/<0;m01/>1;r10/:2;");
        for (int seed : new int[] {0, -1, Integer.MAX_VALUE, Integer.MIN_VALUE}) {
            long[] draws = draws(100, seed);
            int brought = 0;
            int looked = 0;
            for (int i = 0; i < 50; i++) {
                int path = (int) (draws[2 * i] % 341);
                int verb = (int) (draws[2 * i + 1] % 4);
                brought += x.match(path, verb) >= 0 ? 1 : 0;
                looked += x.looked(path, verb);
            }
            due.is("lots(50, " + seed + ", 0)", x.lots(50, seed, 0), brought);
            due.is("lots(50, " + seed + ", 1)", x.lots(50, seed, 1), looked);
        }
    }

    private static void image() {
        due.by("32: THE IMAGE is taken: how many ROUTES are THERE");
        RoutesByTries x = new RoutesByTries();
        for (int many = 0; many <= 10; many++) {
            due.is("image of " + many, x.image(), many);
            Due.tell(x, "r00;");
        }
        x.drops(3);
        due.is("image behind a drop", x.image(), 9);
        due.is("on", x.on(), 9);
        due.by("32: all that there is, but it, the ROW, letters, REFUSALS");
        RoutesByTries y = new RoutesByTries();
        y.row(5);
        y.letter('x');
        y.drops(0);
        y.image();
        y.row(6);
        y.letter('0');
        y.drops(0);
        y.clash(2);
        due.is("on", y.on(), 0);
        due.is("in the ROW", y.count(5), 2);
        due.is("letters", y.count(6), 2);
        due.refusals("behind on", y, 2, 1, 0, 0, 0, 0);
        y.clear();
        due.is("on once more", y.on(), 0);
        due.is("the ROW stays clear", y.count(5), 0);
    }

    private static void on() {
        due.by("33: -3 there is none");
        RoutesByTries x = new RoutesByTries();
        due.is("on", x.on(), -3);
        due.is("a refused one makes none", x.on(), -3);
        due.by("33: ON from it all is as then");
        String table = "r00/a;m01/b;r13/:0/*;k025;k134;";
        Due.tell(x, table);
        x.image();
        Due.tell(x, "x0;x1;x2;r00;r00;r00;r00;r00;r00;r00;k000;k100;k259;");
        due.is("no room now", x.copies(9, 0), -6);
        due.is("on", x.on(), 3);
        RoutesByTries then = Due.told(table);
        then.image();
        due.same("behind on", Twins.shown(x), Twins.shown(then));
        due.by("33: and so on again: ROUTES that came behind THE IMAGE did not come");
        RoutesByTries y = Due.told(table);
        y.image();
        due.is("a copy", y.copies(0, 0), 3);
        due.is("on", y.on(), 3);
        due.is("the copy's number", y.route(3, 0), -1);
        due.is("a copy once more", y.copies(2, 0), 3);
        due.is("on once more", y.on(), 3);
        due.is("a new one by the same number", Due.tell(y, "r02/d;") + y.match(Due.path("d"), 2), 4);
    }

    private static void count() {
        due.by("34: 0 ROUTES that came, 1 those THERE, 2 MOUNTS THERE, 3 SEGMENTS of all THERE, 4 NODES, 5 in the ROW, 6 letters");
        counts("r00;", 1, 1, 0, 0, 3);
        counts("m12/a/b/c/d;", 1, 1, 1, 4, 7);
        counts("r00/a/b/c/*;x0;", 1, 0, 0, 0, 3);
        counts("m01;m02;m12;x1;", 3, 5, 5, 0, 3);
        counts("r00/a/*;r10/a/*;r20/a/*;x1;", 3, 5, 0, 4, 5);
        RoutesByTries all = Due.told("r00/a/b/c/d;r00/a/b/c/*;");
        for (int i = 2; i < 10; i++) {
            due.is("copies", all.copies(i % 2, i % 3), i);
        }
        due.is("the most SEGMENTS", all.count(3), 40);
        due.is("ROUTES that came", all.count(0), 10);
        due.is("all THERE", all.count(1), 1023);
        due.by("34: -9 for another what");
        RoutesByTries x = Due.told("r00/a;");
        for (int what : new int[] {-1, -9, 7, 8, 9, 10, 17, 18, 43, Integer.MIN_VALUE, Integer.MAX_VALUE}) {
            due.is("count(" + what + ")", x.count(what), -9);
        }
        due.refusals("another what is none", x, 0, 0, 0, 0, 0, 0);
    }

    private static void counts(String table, int... want) {
        RoutesByTries x = Due.told(table);
        for (int what = 0; what < want.length; what++) {
            due.is("count(" + what + ") of " + table, x.count(what), want[what]);
        }
        due.is("count(5) of " + table, x.count(5), 0);
        due.is("count(6) of " + table, x.count(6), 0);
    }
}
