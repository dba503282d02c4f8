/** Promises 28 to 34: the row, judging, lots, the image, and counts. */
public final class RowTest {
    private static final Due due = new Due("RowTest");

    public static void main(String[] args) {
        row();
        judge();
        lots();
        image();
        imageAgain();
        counts();
        due.end();
    }

    private static void row() {
        RoutesByTries x = new RoutesByTries();
        due.is("clear of none", x.clear(), 0);
        due.is("row(0)", x.row(0), 1);
        due.is("row(99)", x.row(99), 2);
        due.is("row(-1)", x.row(-1), -4);
        due.is("row(100)", x.row(100), -6);
        for (int i = 3; i <= 30; i++) {
            due.is("row " + i, x.row(99), i);
        }
        due.is("row 31", x.row(99), -6);
        due.is("row 31 below", x.row(-1), -4);
        due.is("count(5)", x.count(5), 30);
        due.is("clear", x.clear(), 30);
        due.is("clear again", x.clear(), 0);
        due.is("row behind it", x.row(5), 1);
        due.refusals("row", x, 0, 0, 0, 2, 0, 2);
    }

    private static void judge() {
        RoutesByTries x = Due.told("r00/a;r02/:0;");
        due.is("judge of none", x.judge(0), -9);
        int[] get = {99, 0, 99, 99, 99, 99};
        int[] put = {99, 1, 1, 1, 1, 99};
        for (int number : get) {
            x.row(number);
        }
        due.is("judge(4)", x.judge(4), -2);
        due.is("judge(-1)", x.judge(-1), -2);
        due.is("the row stays", x.count(5), 6);
        due.is("judge(0)", x.judge(0), -9);
        due.is("the row has none", x.count(5), 0);
        for (int number : put) {
            x.row(number);
        }
        due.is("judge(2)", x.judge(2), -9);
        for (int number : get) {
            x.row(number);
        }
        due.is("judge(2) not so", x.judge(2), 1);
        due.is("the row has none then too", x.count(5), 0);
        x.row(0);
        due.is("the first", x.judge(0), 0);
        for (int i = 0; i < 29; i++) {
            x.row(i == 1 ? 0 : 99);
        }
        x.row(0);
        due.is("the last", x.judge(1), 29);
        due.refusals("judge", x, 0, 2, 0, 0, 0, 0);
    }

    private static int seed;

    private static int draw(int m) {
        seed = seed * 1664525 + 1013904223;
        return (seed & Integer.MAX_VALUE) / 256 % m;
    }

    private static void lots() {
        int[] seeds = {0, 1, -1, 77, Integer.MAX_VALUE, Integer.MIN_VALUE, 1013904223};
        int[] times = {1, 2, 3, 17, 100, 199, 200};
        for (int i = 0; i < seeds.length; i++) {
            RoutesByTries x = Due.told("r00/a/*;r02/:0/*;r03/<0/>1;m01/d;r10/:0;");
            int many = 0;
            int looked = 0;
            seed = seeds[i];
            for (int j = 0; j < times[i]; j++) {
                int path = draw(341);
                int verb = draw(4);
                many += x.match(path, verb) >= 0 ? 1 : 0;
                looked += x.looked(path, verb);
            }
            due.is("lots(" + times[i] + ", " + seeds[i] + ", 0)", x.lots(times[i], seeds[i], 0), many);
            due.is("lots(" + times[i] + ", " + seeds[i] + ", 1)", x.lots(times[i], seeds[i], 1), looked);
        }
        // By seed 0 the first numbers are 3960563 (the path 189, bcca) and 4673577 (HEAD).
        RoutesByTries y = Due.told("r01/b/c/c/a;");
        due.is("lots(1, 0, 0) by hand", y.lots(1, 0, 0), 1);
        due.is("lots(1, 0, 1) by hand", y.lots(1, 0, 1), 5);
        due.is("lots(0, 0, 2)", y.lots(0, 0, 2), -4);
        due.is("lots(201, 0, 2)", y.lots(201, 0, 2), -6);
        due.is("lots(1, 0, 2)", y.lots(1, 0, 2), -2);
        due.is("lots(200, 0, -1)", y.lots(200, 0, -1), -2);
        due.is("lots(least, 0, 0)", y.lots(Integer.MIN_VALUE, 0, 0), -4);
        due.refusals("lots", y, 0, 2, 0, 2, 0, 1);
    }

    private static void image() {
        RoutesByTries x = Due.told("r00/a;m01/b;r10/c/*;k025;k131;");
        due.is("on ahead of an image", x.on(), -3);
        x.row(7);
        x.letter('r');
        due.is("image", x.image(), 3);
        due.is("a change", Due.tell(x, "00;x0;x1;r02/d;k000;k100;"), 6);
        x.row(8);
        x.letter(1);
        x.letter(2);
        x.verb(2, 2);
        x.drops(9);
        due.is("there, changed", x.count(1), 4 + 8 + 16);
        due.is("on", x.on(), 3);
        due.is("there", x.count(1), 7);
        due.is("came", x.count(0), 3);
        due.is("mounts", x.count(2), 2);
        due.is("nodes", x.count(4), 6);
        due.is("the row is as it is", x.count(5), 2);
        due.is("letters are as they are", x.count(6), 2);
        due.is("verb is as then", x.route(2, 1), 0);
        due.is("match", x.match(Due.path("bc"), 0), 2);
        due.is("kind is as then", x.kind(0, 0, 0), 25);
        due.is("kind of 1 is as then", x.kind(1, 0, 0), 31);
        due.refusals("image", x, 1, 0, 1, 0, 0, 0);
    }

    private static void imageAgain() {
        RoutesByTries x = new RoutesByTries();
        due.is("an empty image", x.image(), 0);
        due.is("told", Due.tell(x, "r00/a;r00/b;"), 2);
        due.is("on", x.on(), 0);
        due.is("came", x.count(0), 0);
        due.is("match", x.match(1, 0), -9);
        due.is("the same numbers come again", Due.tell(x, "r00/c;"), 1);
        due.is("match by 0", x.match(3, 0), 0);
        due.is("route 1", x.route(1, 0), -1);
        due.is("a new image", x.image(), 1);
        due.is("drops", x.drops(0), 0);
        due.is("on", x.on(), 1);
        due.is("drops again", x.drops(0), 0);
        due.is("on, twice from one image", x.on(), 1);
        due.is("match again", x.match(3, 0), 0);
        x.verb(0, 3);
        due.is("the image is not the present", x.on() * 10 + x.route(0, 1), 10);
        due.is("an image of dropped ones", x.drops(0) * 10 + x.image(), 0);
        due.is("on to it", x.on() * 10 + x.count(0), 1);
        due.refusals("image again", x, 1, 0, 0, 0, 0, 0);
    }

    private static void counts() {
        RoutesByTries x = Due.told("r00/a/*;m01/b;r10/c/:0;m12;x1;");
        x.row(1);
        x.letter(1);
        x.letter(1);
        int[] want = {4, 13, 8, 4, 6, 1, 2};
        for (int i = 0; i < want.length; i++) {
            due.is("count(" + i + ")", x.count(i), want[i]);
        }
        int[] others = {-1, 7, 8, 9, 10, 17, 100, Integer.MIN_VALUE, Integer.MAX_VALUE};
        for (int other : others) {
            due.is("count(" + other + ")", x.count(other), -9);
        }
        due.refusals("none yet", x, 0, 0, 0, 0, 0, 0);
        x.drops(1);
        x.clash(2);
        x.clash(2);
        x.verb(3, 0);
        x.verb(3, 0);
        x.verb(3, 0);
        x.row(-1);
        x.lots(201, 0, 0);
        x.mean(9, 9);
        due.refusals("some of each", x, 1, 3, 3, 1, 0, 1);
    }
}
