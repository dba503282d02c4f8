/** Promises 8 to 11: what a route is, its segments, nodes, and the letters of paths. */
public final class RoutesTest {
    private static final Due due = new Due("RoutesTest");

    public static void main(String[] args) {
        routes();
        segments();
        nodes();
        letters();
        due.end();
    }

    private static void whatRouteIs(RoutesByTries x, int route, int... want) {
        for (int i = 0; i < want.length; i++) {
            due.is("route(" + route + ", " + i + ")", x.route(route, i), want[i]);
        }
    }

    private static void routes() {
        RoutesByTries x = Due.told("r13/a/<3/>0/*;m02/d/:2;r20;m12;r02/b/:1/c;");
        whatRouteIs(x, 0, 1, 3, -9, 4, 9, 1);
        whatRouteIs(x, 1, 0, -9, 2, 2, 4, 0);
        whatRouteIs(x, 2, 2, 0, -9, 0, 0, 0);
        whatRouteIs(x, 3, 1, -9, 2, 0, 0, 0);
        whatRouteIs(x, 4, 0, 2, -9, 3, 2, 0);
        whatRouteIs(Due.told("r00/<0;"), 0, 0, 0, -9, 1, 1, 0);
        whatRouteIs(Due.told("r00/:3/>0;"), 0, 0, 0, -9, 2, 9, 0);
        due.is("route(5, 9)", x.route(5, 9), -1);
        due.is("route(-1, 0)", x.route(-1, 0), -1);
        due.is("route(0, 6)", x.route(0, 6), -2);
        due.is("route(0, -1)", x.route(0, -1), -2);
        x.drops(0);
        due.is("route(0, 0) dropped", x.route(0, 0), -1);
        due.refusals("routes", x, 3, 2, 0, 0, 0, 0);
    }

    private static void segments() {
        RoutesByTries x = Due.told("r00/a/b/c/d;r00/<0/<3/>1/:2;r00/>3/:0/*;r00;");
        int[][] want = {{0, 1, 2, 3, -1}, {10, 13, 21, 32, -1}, {23, 30, 40, -1}, {-1}};
        for (int route = 0; route < want.length; route++) {
            for (int i = 0; i < want[route].length; i++) {
                due.is("segment(" + route + ", " + i + ")", x.segment(route, i), want[route][i]);
            }
            due.is("segment(" + route + ", -1)", x.segment(route, -1), -1);
        }
        due.is("segment(4, 0)", x.segment(4, 0), -1);
        due.is("segment(-1, 0)", x.segment(-1, 0), -1);
        x.drops(1);
        due.is("segment(1, 0) dropped", x.segment(1, 0), -1);
        due.refusals("segments", x, 11, 0, 0, 0, 0, 0);
    }

    private static void nodes() {
        RoutesByTries x = Due.told("r00/a/b;r02/a/<1;r00/a/<3/*;r00/a/>1;m01/a/:0/a;r00/*;r11/a;");
        due.is("nodes(0)", x.nodes(0), 7);
        due.is("nodes(1)", x.nodes(1), 2);
        due.is("nodes(2)", x.nodes(2), 1);
        due.is("count(4)", x.count(4), 10);
        due.is("nodes(3)", x.nodes(3), -1);
        due.is("nodes(-1)", x.nodes(-1), -1);
        x.drops(1);
        due.is("a node of two routes stays", x.nodes(0), 7);
        x.drops(2);
        due.is("a node of none goes", x.nodes(0), 6);
        x.drops(4);
        due.is("the nodes of a mount go", x.nodes(0), 4);
        RoutesByTries y = Due.told("r00/a/a/a/a;r00/b/a/a/a;r00/c/a/a/a;r00/d/a/a/a;r00/<0/a/a/a;");
        Due.tell(y, "r00/>0/a/a/a;r00/:0/a/a/a;r10/a/a/a/a;r10/b/a/a/a;r10/c/a/a/a;");
        due.is("as many as there may be", y.count(4), 43);
        due.is("the last of them", y.nodes(1), 13);
        due.refusals("nodes", x, 2, 0, 0, 0, 0, 0);
    }

    private static void letters() {
        RoutesByTries x = new RoutesByTries();
        String[] paths = {"", "a", "d", "aa", "ab", "dd", "aaa", "bcd", "ddd", "aaaa", "abcd", "dddd"};
        int[] numbers = {0, 1, 4, 5, 6, 20, 21, 48, 84, 85, 112, 340};
        for (int i = 0; i < paths.length; i++) {
            String letters = paths[i];
            due.is("length of " + letters, x.letterOf(numbers[i], -1), letters.length());
            for (int j = 0; j < letters.length(); j++) {
                due.is("letter of " + letters, x.letterOf(numbers[i], j), letters.charAt(j) - 'a');
            }
            due.is("behind " + letters, x.letterOf(numbers[i], letters.length()), -1);
        }
        due.is("letterOf(0, -2)", x.letterOf(0, -2), -1);
        due.is("letterOf(-1, -1)", x.letterOf(-1, -1), -1);
        due.is("letterOf(341, -1)", x.letterOf(341, -1), -1);
        due.refusals("letters", x, 15, 0, 0, 0, 0, 0);
    }
}
