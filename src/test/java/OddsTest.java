/** Promises 24 to 27: the best kind, routes lost by odds, the mean, and which kind a router was. */
public final class OddsTest {
    private static final Due due = new Due("OddsTest");
    private static final long REFUSED = 4000000000000000000L;

    public static void main(String[] args) {
        best();
        lost();
        lostRefused();
        mean();
        whatIs();
        due.end();
    }

    private static void best() {
        RoutesByTries x = Due.told("r00/*;r00/a/b;");
        due.is("greedy looks at least", x.best(0), 3);
        due.is("kind stays for a match", x.looked(Due.path("ab"), 0) * 10 + x.match(Due.path("ab"), 0), 31);
        due.is("a router never looked at", x.best(1), 0);
        due.is("nothing changes", x.kind(0, 5, 0), 0);
        due.is("nor when it was short", x.best(0), 3);
        due.is("nor then", x.kind(0, 5, 9), 50);
        due.is("best of nothing", new RoutesByTries().best(0), 0);
        due.is("strict looks less", Due.told("r00/a/b;r00/:0/b;").best(0), 4);
        due.is("strict matches less", Due.told("r00/a/b;r00/:0/c;").best(0), 0);
        RoutesByTries z = Due.told("r00/<0/a;r00/:0/a;r00/:0/b;");
        due.is("any first looks less", z.best(0), 1);
        RoutesByTries w = Due.told("m01;r10/*;r00/a/a/a/a;");
        due.is("mounts first look less", w.best(0), 2);
        due.is("of the mounted one", w.best(1), 0);
        RoutesByTries v = Due.told("r10/a;m01;r00/b;k109;");
        due.is("all alike", v.best(1), 0);
        v.kind(1, 0, 1);
        due.is("short looks less by its figure", v.best(1), 5);
        due.is("by GET alone", Due.told("r02/*;r00/a;r00/:0/a;").best(0), 0);
        due.is("best(3)", x.best(3), -1);
        due.is("best(-1)", x.best(-1), -1);
        due.refusals("best", x, 2, 0, 0, 0, 0, 0);
    }

    private static void odds(RoutesByTries x, String path, int verb, int t, long above, long below) {
        int number = Due.path(path);
        due.is("lost(" + path + ", " + t + ") above", x.lost(number, verb, t, 0), above);
        due.is("lost(" + path + ", " + t + ") below", x.lost(number, verb, t, 1), below);
    }

    private static void lost() {
        RoutesByTries x = Due.told("r00/a;r00/:0;m01/b;r10;");
        odds(x, "a", 0, 2, 3, 4);
        odds(x, "a", 1, 3, 8, 9);
        odds(x, "c", 0, 20, 19, 20);
        odds(x, "c", 2, 20, 0, 1);
        odds(x, "", 0, 7, 0, 1);
        odds(x, "b", 0, 2, 5, 8);
        RoutesByTries y = Due.told("r00/a/b;r00/:0/*;k040;");
        odds(y, "a", 0, 2, 1, 4);
        odds(y, "a", 0, 3, 2, 9);
        odds(y, "ab", 0, 2, 3, 4);
        RoutesByTries z = Due.told("r00/a;r00/a;r00/a;r00/a;r00/a;r00/a;r00/b;r03/b;");
        odds(z, "a", 0, 20, 63999999, 64000000);
        odds(z, "a", 0, 2, 63, 64);
        odds(z, "b", 0, 2, 1, 1);
        odds(z, "b", 3, 20, 1, 1);
        z.drops(0);
        odds(z, "a", 0, 2, 31, 32);
        RoutesByTries none = new RoutesByTries();
        odds(none, "", 0, 2, 0, 1);
        RoutesByTries all = Due.told("r03/*;m01;m12;m02;r20;r10;r20/a;");
        odds(all, "a", 0, 5, 616, 625);
    }

    private static void lostRefused() {
        RoutesByTries x = Due.told("r00/a;");
        due.is("lost(341, 4, 1, 2)", x.lost(341, 4, 1, 2), REFUSED + 1);
        due.is("lost(-1, 0, 2, 0)", x.lost(-1, 0, 2, 0), REFUSED + 1);
        due.is("lost(0, 4, 1, 0)", x.lost(0, 4, 1, 0), REFUSED + 2);
        due.is("lost(0, -1, 2, 0)", x.lost(0, -1, 2, 0), REFUSED + 2);
        due.is("lost(0, 0, 21, 2)", x.lost(0, 0, 21, 2), REFUSED + 2);
        due.is("lost(0, 0, 2, -1)", x.lost(0, 0, 2, -1), REFUSED + 2);
        due.is("lost(0, 0, 1, 0)", x.lost(0, 0, 1, 0), REFUSED + 4);
        due.is("lost(0, 0, least, 0)", x.lost(0, 0, Integer.MIN_VALUE, 0), REFUSED + 4);
        due.is("lost(0, 0, 21, 0)", x.lost(0, 0, 21, 0), REFUSED + 6);
        due.is("mean(4, 0)", x.mean(4, 0), REFUSED + 2);
        due.is("mean(-1, 0)", x.mean(-1, 0), REFUSED + 2);
        due.is("mean(0, 2)", x.mean(0, 2), REFUSED + 2);
        due.is("mean(0, -1)", x.mean(0, -1), REFUSED + 2);
        due.refusals("lost and mean", x, 2, 8, 0, 2, 0, 1);
    }

    private static void means(String text, int verb, long above, long below) {
        RoutesByTries x = Due.told(text);
        due.is("mean above of " + text, x.mean(verb, 0), above);
        due.is("mean below of " + text, x.mean(verb, 1), below);
    }

    private static void mean() {
        means("k000;", 0, 1, 1);
        means("r00/a;", 0, 426, 341);
        means("r00/:0;", 2, 681, 341);
        means("m01;", 3, 2, 1);
        means("m01;r00/*;", 0, 1, 1);
        means("m01;r00/*;", 2, 2, 1);
        means("m01/a;r10/*;", 0, 1 * 256 + 3 * 85, 341);
        means("m01;k020;m02/d/d/d/d;", 0, 3 * 341 + 85 + 21 + 5 + 3, 341);
    }

    private static void rows(RoutesByTries x, int... numbers) {
        x.clear();
        for (int number : numbers) {
            x.row(number);
        }
    }

    private static void whatIs() {
        RoutesByTries x = Due.told("r00/a/b;r00/<0/:1;r00/:0/*;r00/*;");
        due.is("of none all is so", x.whatIs(0, 0), 63);
        due.is("figures of none", x.whatIs(2, 1), 1023);
        rows(x, 3);
        due.is("an empty path", x.whatIs(0, 0), 63);
        rows(x, 3, 2, 2, 2, 2, 1);
        due.is("plain, early", x.whatIs(0, 0), 1 + 4);
        due.is("figures by plain", x.whatIs(0, 1), 1023);
        rows(x, 3, 2, 2, 2, 2, 2, 0);
        due.is("loose", x.whatIs(0, 0), 2);
        due.is("no figure by plain", x.whatIs(0, 1), 0);
        rows(x, 3, 3, 3, 3, 3, 3);
        due.is("greedy", x.whatIs(0, 0), 8);
        rows(x, 3, 99, 99, 2, 2, 99, 0);
        due.is("strict, figure 0", x.whatIs(0, 0), 16);
        due.is("the row stays", x.count(5), 7);
        x.kind(0, 5, 2);
        due.is("strict and short, figure 2", x.whatIs(0, 0), 16 + 32);
        due.is("figures", x.whatIs(0, 1), 1020);
        rows(x, 3, 99, 99, 2, 2, 99, 99);
        due.is("figure 1", x.whatIs(0, 1), 2);
        rows(x, 3, 99, 99, 99, 99, 99);
        due.is("figure 0", x.whatIs(0, 1), 1);
        due.is("another router", x.whatIs(1, 0), 0);
        rows(x, 3, 99, 99, 2);
        due.is("another router, all so", x.whatIs(1, 0), 63);
        due.is("another router's figures", x.whatIs(1, 1), 1023);
        rows(x, 99);
        due.is("not so from the first on", x.whatIs(0, 0), 0);
        due.is("by no figure", x.whatIs(0, 1), 0);
        rows(x, 3, 50);
        due.is("never so", x.whatIs(0, 0), 0);
        due.is("kind stays", x.kind(0, 0, 0), 52);
        due.is("whatIs(3, 2)", x.whatIs(3, 2), -1);
        due.is("whatIs(-1, 0)", x.whatIs(-1, 0), -1);
        due.is("whatIs(0, 2)", x.whatIs(0, 2), -2);
        due.is("whatIs(0, -1)", x.whatIs(0, -1), -2);
        due.refusals("whatIs", x, 2, 2, 0, 0, 0, 0);
    }
}
