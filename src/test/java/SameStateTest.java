import java.util.function.Supplier;

/**
 * All promises: ROUTES, KINDS and ROW that are the same answer alike, whichever calls led there: told by
 * one TABLE, changed by calls behind a lesser one, or come back to by ON.
 */
public final class SameStateTest {
    private static final Due due = new Due("SameStateTest");
    private static final String FIRST = "r00/c;r00/a/:0;m01/b;r13/:1/*;m12/c;r21/<2/d;";
    private static final String WHOLE = "r00/c;r02/a/:0;m01/b;r13/:1/*;m12/c;r21/<2/d;r03/:1/*;m02/c;r00/c;x0;x8;k023;k152;";
    private static final String MESS = "x1;x2;x3;x4;x5;x6;x7;r00/d/*;k040;k110;k231;";
    private static final int[] PATHS = {0, 1, 2, 3, 4, 5, 6, 8, 9, 12, 16, 20, 21, 24, 48, 49, 85, 150, 340};

    public static void main(String[] args) {
        due.by("the state is as it is meant to be");
        RoutesByTries x = told();
        due.is("came", x.count(0), 9);
        due.is("there", x.count(1), 0b011111110);
        due.is("mounts", x.count(2), 0b010010100);
        due.is("in the row", x.count(5), 10);
        alike("changed by calls", SameStateTest::changed);
        alike("changed by calls and by a table", SameStateTest::changedTwice);
        alike("come back to", SameStateTest::cameBack);
        alike("come back to from more", SameStateTest::cameBackFromMore);
        due.end();
    }

    private static RoutesByTries told() {
        return withRow(Due.told(WHOLE));
    }

    private static RoutesByTries changed() {
        RoutesByTries x = Due.told(FIRST);
        change(x);
        return withRow(x);
    }

    private static void change(RoutesByTries x) {
        x.verb(1, 2);
        x.copies(3, 0);
        x.copies(4, 0);
        x.copies(0, 0);
        x.drops(0);
        x.drops(8);
        x.kind(0, 2, 3);
        x.kind(1, 5, 2);
    }

    private static RoutesByTries changedTwice() {
        RoutesByTries x = Due.told(FIRST);
        x.verb(1, 3);
        Due.tell(x, "r03/:1/*;x0;");
        x.verb(1, 2);
        x.copies(4, 0);
        x.copies(3, 1);
        x.drops(8);
        Due.tell(x, "k023;k152;");
        return withRow(x);
    }

    private static RoutesByTries cameBack() {
        RoutesByTries x = Due.told(WHOLE);
        x.image();
        Due.tell(x, MESS);
        x.on();
        return withRow(x);
    }

    private static RoutesByTries cameBackFromMore() {
        RoutesByTries x = Due.told(FIRST);
        change(x);
        x.image();
        x.copies(5, 2);
        x.verb(9, 0);
        x.verb(6, 1);
        x.kind(2, 3, 3);
        x.on();
        return withRow(x);
    }

    /** What PATHS bring by GET, told to all of the objects alike. */
    private static RoutesByTries withRow(RoutesByTries x) {
        RoutesByTries asked = Due.told(WHOLE);
        for (int path = 0; path < 10; path++) {
            int end = asked.match(path, 0);
            x.row(end < 0 ? 99 : end);
        }
        return x;
    }

    private static void alike(String how, Supplier<RoutesByTries> other) {
        due.by("ON from it all is as then; what there is tells all answers: " + how);
        for (int route = -1; route <= 10; route++) {
            ofRoute(other, route);
        }
        for (int path : PATHS) {
            ofPath(other, path);
        }
        for (int two = 0; two <= 1; two++) {
            same(other, "clash", two);
            for (int number = 0; number <= 3; number++) {
                same(other, "mean", number, two);
                same(other, "whatIs", number, two);
                same(other, "lots", 150, number, two);
            }
        }
        for (int number = 0; number <= 6; number++) {
            same(other, "count", number);
            same(other, "nodes", number);
            same(other, "best", number);
            same(other, "kind", number, 1, 1);
            same(other, "matched", number);
            same(other, "judge", number);
        }
        same(other, "never");
        same(other, "image");
        same(other, "clear");
    }

    private static void ofRoute(Supplier<RoutesByTries> other, int route) {
        for (int number = 0; number <= 5; number++) {
            same(other, "route", route, number);
            same(other, "segment", route, number);
            same(other, "brought", route, number);
            same(other, "verb", route, number);
            same(other, "copies", route, number);
            same(other, "without", route, number, 0);
            same(other, "without", route, 8 + number, 2);
            same(other, "build", route, number & 3, 1, number >> 1, 3 - number % 4);
        }
        for (int b = 0; b <= 9; b++) {
            same(other, "witness", route, b);
        }
        same(other, "back", route);
        same(other, "drops", route);
    }

    private static void ofPath(Supplier<RoutesByTries> other, int path) {
        same(other, "verbs", path);
        for (int verb = 0; verb <= 3; verb++) {
            same(other, "match", path, verb);
            same(other, "looked", path, verb);
            for (int what = 0; what <= 5; what++) {
                same(other, "bound", path, verb, what);
            }
            same(other, "lost", path, verb, 3, 0);
            same(other, "lost", path, verb, 3, 1);
        }
    }

    private static void same(Supplier<RoutesByTries> other, String call, int... a) {
        due.is(Calls.told(call, a), Calls.call(other.get(), call, a), Calls.call(told(), call, a));
    }
}
