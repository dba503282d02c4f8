/** Promises 19 to 23: witnesses, clashes, paths built, built back, and without a route. */
public final class PairsTest {
    private static final Due due = new Due("PairsTest");

    public static void main(String[] args) {
        witness();
        clash();
        build();
        buildByMounts();
        back();
        without();
        due.end();
    }

    private static void witness() {
        RoutesByTries x = Due.told("r00/a;r12/<0;r00/:1/*;m01/b;r00/>0/d;r03;r02/*;m12/:0/>2;r00/<0/*;");
        String[] twos = {"01a", "02a", "12a", "23b", "24cd", "26a", "36b", "56", "78ac", "37bc", "68a", "38b"};
        for (String two : twos) {
            int a = two.charAt(0) - '0';
            int b = two.charAt(1) - '0';
            int want = Due.path(two.substring(2));
            due.is("witness(" + a + ", " + b + ")", x.witness(a, b), want);
            due.is("witness(" + b + ", " + a + ")", x.witness(b, a), want);
        }
        int[][] none = {{0, 3}, {0, 4}, {1, 4}, {5, 0}, {3, 4}, {4, 8}, {5, 2}};
        for (int[] two : none) {
            due.is("witness(" + two[0] + ", " + two[1] + ")", x.witness(two[0], two[1]), -9);
        }
        due.is("witness(0, 0)", x.witness(0, 0), -1);
        due.is("witness(0, 9)", x.witness(0, 9), -1);
        due.is("witness(-1, 0)", x.witness(-1, 0), -1);
        x.drops(0);
        due.is("witness(0, 1) dropped", x.witness(0, 1), -1);
        due.is("witness(1, 0) dropped", x.witness(1, 0), -1);
        due.refusals("witness", x, 5, 0, 0, 0, 0, 0);
    }

    private static void clashes(String text, int many, int least) {
        RoutesByTries x = Due.told(text);
        due.is("clash(0) of " + text, x.clash(0), many);
        due.is("clash(1) of " + text, x.clash(1), least);
    }

    private static void clash() {
        clashes("r02/a;r00/a/:1;r03/a/:2;", 1, 1);
        clashes("r00/a;r00/a;r00/a;", 3, 0);
        clashes("r00/a;r01/a;", 1, 0);
        clashes("r00/a;r02/a;r01/b;r02/b;", 0, -9);
        clashes("r02;r00;r01;r03;", 4, 0);
        clashes("r00/<0/*;r00/<1/*;", 1, 0);
        clashes("r00/<0;r00/>0;r00/:0;r00/a;r00/*;r00;r00/a/*;", 0, -9);
        clashes("r00/a;r10/a;r20/a;", 0, -9);
        clashes("m01/a;m01/a;r00/a;", 0, -9);
        clashes("r00/a/<0/>1/:2;r00/a/<1/>2/:3;", 1, 0);
        clashes("r00/a/b;r00/b/b;r00/a;", 0, -9);
        RoutesByTries x = Due.told("r00/a;r00/a;r02/b;r03/b;");
        x.drops(0);
        due.is("clash(0) dropped", x.clash(0), 1);
        due.is("clash(1) dropped", x.clash(1), 2);
        due.is("clash(2)", x.clash(2), -2);
        due.is("clash(-1)", x.clash(-1), -2);
        due.refusals("clash", x, 0, 2, 0, 0, 0, 0);
    }

    private static void build() {
        RoutesByTries x = Due.told("r00/d/<0/>2/:3;r00/:1/*;r00;r00/:3/:2/:1/:0;m01/a;");
        due.is("build(0, 1, 0, 3, 2)", x.build(0, 1, 0, 3, 2), Due.path("dbdc"));
        due.is("build(0, 0, 3, 2, 0)", x.build(0, 0, 3, 2, 0), Due.path("daca"));
        due.is("low", x.build(0, 2, 0, 3, 2), -9);
        due.is("high", x.build(0, 1, 0, 1, 2), -9);
        due.is("rest", x.build(1, 3, 2, 3, 3), Due.path("c"));
        due.is("empty", x.build(2, 0, 0, 0, 0), 0);
        due.is("any", x.build(3, 0, 1, 2, 3), Due.path("dcba"));
        due.is("build(4, 4, 0, 0, 0)", x.build(4, 4, 0, 0, 0), -1);
        due.is("build(4, 0, 0, 0, 0)", x.build(4, 0, 0, 0, 0), -3);
        due.is("build(5, ..)", x.build(5, 0, 0, 0, 0), -1);
        due.is("build(-1, ..)", x.build(-1, 0, 0, 0, 0), -1);
        int[][] wrong = {{-1, 0, 0, 0}, {0, 4, 0, 0}, {0, 0, -1, 0}, {0, 0, 0, 4}};
        for (int[] w : wrong) {
            due.is("build(2, " + w[0] + ", ..)", x.build(2, w[0], w[1], w[2], w[3]), -1);
        }
        due.refusals("build", x, 7, 0, 1, 0, 0, 0);
    }

    private static void buildByMounts() {
        RoutesByTries x = Due.told("m12/b;r20/c;r10/:1;m01/a/:0;m02/d;m01/b;");
        due.is("by a router that has a way", x.build(1, 2, 0, 0, 0), Due.path("acbc"));
        due.is("by the least mount", x.build(2, 3, 1, 0, 0), Due.path("adb"));
        x.drops(3);
        due.is("by the next mount", x.build(1, 0, 0, 0, 0), Due.path("bbc"));
        x.drops(5);
        due.is("by the mount with a way", x.build(1, 0, 0, 0, 0), Due.path("dc"));
        due.is("without a way", x.build(2, 0, 0, 0, 0), -9);
        x.drops(4);
        due.is("a mount without a way", x.build(1, 0, 0, 0, 0), -9);
        RoutesByTries z = Due.told("r10/a;r00;r00;r00;r00;r00;r00;r00;r00;m01/c;");
        due.is("by the last mount", z.build(0, 0, 0, 0, 0), Due.path("ca"));
        RoutesByTries y = Due.told("m01/a/<0/:1;m12/b;r20;r20/d;r20/:0;r20/*;m02;");
        due.is("as long as may be", y.build(2, 1, 3, 0, 0), Due.path("abdb"));
        due.is("too long", y.build(3, 1, 3, 0, 0), -9);
        due.is("too long by a parameter", y.build(4, 1, 3, 0, 0), -9);
        due.is("rest takes nothing", y.build(5, 0, 0, 0, 0), Due.path("aaab"));
        due.is("low of a mount", y.build(2, 2, 0, 0, 0), -9);
    }

    private static void back() {
        RoutesByTries x = Due.told("r00/<0/>1;r02/:3;r00/b;r03/b/*;r00/a/a;m01/d;r10/:0;r20;");
        int[] want = {32, 192, 256, 0, 256, -3, 256, 0};
        for (int i = 0; i < want.length; i++) {
            due.is("back(" + i + ")", x.back(i), want[i]);
        }
        x.drops(2);
        due.is("back(3) by GET", x.back(3), 256);
        due.is("back(2)", x.back(2), -1);
        due.is("back(8)", x.back(8), -1);
        due.is("back(-1)", x.back(-1), -1);
        due.is("some bring another", Due.told("r00/a/:0;r00/:0/:1;").back(1), 192);
        due.is("the empty path", Due.told("r00;").back(0), 256);
        due.is("not both a, 0 and 1", Due.told("r00/a/a;r00/:0/:1;").back(1), 240);
        due.is("not both a, 1 and 2", Due.told("r00/a/a;r00/:1/:2;").back(1), 240);
        due.is("not both a, 2 and 3", Due.told("r00/a/a;r00/:2/:3;").back(1), 240);
        due.is("each parameter", Due.told("r00/<2/>3/<1/>0;").back(0), 16);
        due.is("three of one, one of another", Due.told("r00/:2/a;r00/<2/:0;k010;").back(1), 96);
        due.is("by HEAD", Due.told("r01/>0;r00/d;r01/c;").back(0), 0);
        due.is("by PUT", Due.told("r02/>0;r00/c;").back(0), 128);
        due.refusals("back", x, 3, 0, 1, 0, 0, 0);
    }

    private static void without() {
        RoutesByTries x = Due.told("r00/a/b;r00/:0/*;r02;m01/d;r10;");
        due.is("without(0, ab, GET)", x.without(0, Due.path("ab"), 0), 1);
        due.is("without(1, ab, HEAD)", x.without(1, Due.path("ab"), 1), 0);
        due.is("without(1, c, GET)", x.without(1, Due.path("c"), 0), -9);
        due.is("without(2, 0, PUT)", x.without(2, 0, 2), -9);
        due.is("without(0, 0, PUT)", x.without(0, 0, 2), 2);
        due.is("without a rest, a mount", x.without(1, Due.path("d"), 0), 4);
        due.is("a mount has a number too", x.without(3, Due.path("d"), 0), 1);
        due.is("all as it was", x.match(Due.path("ab"), 0), 0);
        x.kind(0, 4, 0);
        due.is("a strict one", x.match(Due.path("a"), 0), -9);
        due.is("without the node", x.without(0, Due.path("a"), 0), 1);
        due.is("without another", x.without(1, Due.path("a"), 0), -9);
        RoutesByTries y = Due.told("r00/a;r00/b;r00/c/d;r00/:0/*;k040;");
        y.drops(0);
        due.is("without the node behind a dropped one", y.without(2, Due.path("c"), 0), 3);
        due.is("with it", y.without(1, Due.path("c"), 0), -9);
        due.is("without(5, 341, 4)", x.without(5, 341, 4), -1);
        due.is("without(0, 341, 4)", x.without(0, 341, 4), -1);
        due.is("without(5, 0, 4)", x.without(5, 0, 4), -1);
        due.is("without(-1, 0, 0)", x.without(-1, 0, 0), -1);
        due.is("without(0, -1, 0)", x.without(0, -1, 0), -1);
        due.is("without(0, 0, 4)", x.without(0, 0, 4), -2);
        due.is("without(0, 0, -1)", x.without(0, 0, -1), -2);
        due.refusals("without", x, 5, 2, 0, 0, 0, 0);
    }
}
