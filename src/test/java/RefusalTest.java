/**
 * Each refusal of each promise: the first that fits in the order in which its promise tells them, its
 * count one more, nothing else changed. A row with several wrong numbers is due the first of the order.
 */
public final class RefusalTest {
    private static final int LEAST = Integer.MIN_VALUE;
    private static final int GREATEST = Integer.MAX_VALUE;

    // MIXED has the ENDS 0, 3, 5, 6 and the MOUNTS 2 (of 1 in 0), 4 (of 2 in 1); 1 is dropped, 7 never
    // came; a number of 32 more would show if only its last bits were looked at.
    private static final int[] ENDS = {0, 3, 5, 6};
    private static final int[] MOUNTS = {2, 4};
    private static final int[] NO_ROUTES = {1, 7, 9, 10, 32, 64, -1, -32, LEAST, GREATEST};
    private static final int[] NO_ROUTERS = {-1, 3, LEAST, GREATEST};
    private static final int[] NO_PATHS = {-1, 341, LEAST, GREATEST};
    private static final int[] NO_VERBS = {-1, 4, LEAST, GREATEST};
    private static final int[] NO_ONE_OF_TWO = {-1, 2, LEAST, GREATEST};
    private static final int[] NO_LETTERS = {-1, 4, LEAST, GREATEST};

    private static final Due due = new Due("RefusalTest");
    private static final Twins fresh = new Twins(due, "new", x -> { });
    private static final Twins mixed = new Twins(due, "mixed", RefusalTest::mix);
    private static final Twins full = new Twins(due, "full", RefusalTest::fill);

    public static void main(String[] args) {
        states();
        letters();
        kinds();
        routesChanged();
        copies();
        routesAsked();
        letterOf();
        pathsAsked();
        bound();
        brought();
        verbsAsked();
        witness();
        build();
        without();
        routersAsked();
        fractions();
        rows();
        lots();
        image();
        nothingAtAll();
        due.end();
    }

    /** Some of all: routes dropped and changed behind an image, a row that is so, letters that make a table. */
    private static void mix(RoutesByTries x) {
        Due.tell(x, "r00/a/:0;r02/<1/>2;m01/b;r13/:1/*;m12/c;r21/d;x1;k023;k151;");
        x.image();
        Due.tell(x, "r00/d;");
        x.verb(0, 2);
        x.lots(0, 0, 0);
        for (int path = 0; path <= 4; path++) {
            x.row(path == 4 ? 6 : 99);
        }
        letters(x, "k234;");
    }

    /** No room for a ROUTE, a letter or a number of the ROW. */
    private static void fill(RoutesByTries x) {
        Due.tell(x, "r00/a;m01/b;r10/c;m12/d;r20/a;r00/*;r03/:3;r02/b;m02/b;r10;");
        for (int i = 0; i < 30; i++) {
            x.row(99);
        }
        letters(x, "k012;".repeat(18) + "k123;x");
    }

    private static void letters(RoutesByTries x, String text) {
        for (int i = 0; i < text.length(); i++) {
            x.letter(text.charAt(i));
        }
    }

    /** The states are what the rows below take them to be. */
    private static void states() {
        RoutesByTries x = new RoutesByTries();
        mix(x);
        due.is("mixed: came", x.count(0), 7);
        due.is("mixed: there", x.count(1), 0b1111101);
        due.is("mixed: mounts", x.count(2), 0b10100);
        due.is("mixed: in the row", x.count(5), 5);
        due.is("mixed: letters", x.count(6), 5);
        due.is("mixed: an image of 5", x.on(), 5);
        RoutesByTries y = new RoutesByTries();
        fill(y);
        due.is("full: there", y.count(1), 1023);
        due.is("full: mounts", y.count(2), 0b100001010);
        due.is("full: in the row", y.count(5), 30);
        due.is("full: letters", y.count(6), 96);
        due.refusals("full", y, 0, 0, 0, 0, 0, 0);
    }

    private static void letters() {
        due.by("Promise 2: -4; -6 (255; 96, too).");
        for (int c : new int[] {-1, LEAST}) {
            mixed.refuse(-4, "letter", c);
            full.refuse(-4, "letter", c);
        }
        for (int c : new int[] {256, GREATEST}) {
            mixed.refuse(-6, "letter", c);
            full.refuse(-6, "letter", c);
        }
        for (int c : new int[] {0, ';', 255}) {
            full.refuse(-6, "letter", c);
        }
    }

    private static void kinds() {
        due.by("Promise 4: -1; -2; -4; -6 9.");
        int[] noKinds = {-1, 6, LEAST, GREATEST};
        for (int no : NO_ROUTERS) {
            mixed.refuse(-1, "kind", no, 0, 0);
            mixed.refuse(-1, "kind", no, 6, -1);
            mixed.refuse(-1, "kind", no, 0, 10);
        }
        for (int no : noKinds) {
            mixed.refuse(-2, "kind", 1, no, 0);
            mixed.refuse(-2, "kind", 1, no, -1);
            mixed.refuse(-2, "kind", 1, no, 10);
        }
        for (int router = 0; router <= 2; router++) {
            mixed.refuse(-4, "kind", router, 5, -1);
            mixed.refuse(-4, "kind", router, 0, LEAST);
            mixed.refuse(-6, "kind", router, 5, 10);
            mixed.refuse(-6, "kind", router, 0, GREATEST);
        }
    }

    private static void routesChanged() {
        due.by("Promise 5: -1; -3 it is a MOUNT; -2. Promise 6: -1.");
        for (int no : NO_ROUTES) {
            mixed.refuse(-1, "verb", no, 0);
            mixed.refuse(-1, "verb", no, 4);
            mixed.refuse(-1, "drops", no);
        }
        for (int mount : MOUNTS) {
            mixed.refuse(-3, "verb", mount, 0);
            mixed.refuse(-3, "verb", mount, 4);
        }
        for (int no : NO_VERBS) {
            for (int end : ENDS) {
                mixed.refuse(-2, "verb", end, no);
            }
        }
    }

    private static void copies() {
        due.by("Promise 7: -1 either; -3 a MOUNT of no greater one; -6.");
        for (int no : NO_ROUTES) {
            mixed.refuse(-1, "copies", no, 0);
            mixed.refuse(-1, "copies", no, 3);
        }
        for (int no : NO_ROUTERS) {
            mixed.refuse(-1, "copies", 0, no);
            mixed.refuse(-1, "copies", 2, no);
            full.refuse(-1, "copies", 0, no);
            full.refuse(-1, "copies", 3, no);
        }
        full.refuse(-1, "copies", 10, 0);
        mixed.refuse(-3, "copies", 2, 1);
        mixed.refuse(-3, "copies", 2, 2);
        mixed.refuse(-3, "copies", 4, 2);
        full.refuse(-3, "copies", 1, 1);
        full.refuse(-3, "copies", 8, 2);
        full.refuse(-6, "copies", 0, 0);
        full.refuse(-6, "copies", 9, 2);
        full.refuse(-6, "copies", 1, 0);
        full.refuse(-6, "copies", 8, 1);
    }

    private static void routesAsked() {
        due.by("Promise 8: -1; -2. Promise 9: -1 either.");
        for (int no : NO_ROUTES) {
            mixed.refuse(-1, "route", no, 0);
            mixed.refuse(-1, "route", no, 6);
            mixed.refuse(-1, "segment", no, 0);
            mixed.refuse(-1, "segment", no, -1);
        }
        for (int no : new int[] {-1, 6, LEAST, GREATEST}) {
            mixed.refuse(-2, "route", 0, no);
            mixed.refuse(-2, "route", 4, no);
        }
        for (int no : new int[] {-1, 2, 3, 4, LEAST, GREATEST}) {
            mixed.refuse(-1, "segment", 0, no);
            mixed.refuse(-1, "segment", 3, no);
        }
        mixed.refuse(-1, "segment", 4, 1);
        full.refuse(-1, "segment", 9, 0);
    }

    private static void letterOf() {
        due.by("Promise 11: -1 either.");
        for (int no : NO_PATHS) {
            mixed.refuse(-1, "letterOf", no, -1);
            mixed.refuse(-1, "letterOf", no, 0);
            mixed.refuse(-1, "letterOf", no, 9);
        }
        int[] paths = {0, 1, 4, 5, 20, 21, 84, 85, 340};
        int[] lengths = {0, 1, 1, 2, 2, 3, 3, 4, 4};
        for (int i = 0; i < paths.length; i++) {
            mixed.refuse(-1, "letterOf", paths[i], lengths[i]);
            mixed.refuse(-1, "letterOf", paths[i], GREATEST);
            mixed.refuse(-1, "letterOf", paths[i], -2);
            mixed.refuse(-1, "letterOf", paths[i], LEAST);
        }
    }

    private static void pathsAsked() {
        due.by("Promises 12, 14: -1; -2. Promise 15: -1.");
        for (String call : new String[] {"match", "looked"}) {
            for (int no : NO_PATHS) {
                mixed.refuse(-1, call, no, 0);
                mixed.refuse(-1, call, no, 4);
            }
            for (int no : NO_VERBS) {
                mixed.refuse(-2, call, 0, no);
                mixed.refuse(-2, call, 340, no);
            }
        }
        for (int no : NO_PATHS) {
            mixed.refuse(-1, "verbs", no);
        }
    }

    private static void bound() {
        due.by("Promise 13: -1; -2 either; -3 it brings nothing.");
        for (int no : NO_PATHS) {
            mixed.refuse(-1, "bound", no, 0, 0);
            mixed.refuse(-1, "bound", no, 4, 0);
            mixed.refuse(-1, "bound", no, 0, 6);
        }
        for (int no : NO_VERBS) {
            mixed.refuse(-2, "bound", 4, no, 0);
            mixed.refuse(-2, "bound", 0, no, 0);
            mixed.refuse(-2, "bound", 0, no, 6);
        }
        for (int no : new int[] {-1, 6, LEAST, GREATEST}) {
            mixed.refuse(-2, "bound", 4, 0, no);
            mixed.refuse(-2, "bound", 0, 0, no);
        }
        for (int what = 0; what <= 5; what++) {
            mixed.refuse(-3, "bound", 0, 0, what);
            mixed.refuse(-3, "bound", 4, 2, what);
        }
    }

    private static void brought() {
        due.by("Promise 16: -1; -3 a MOUNT; -2. Promise 22: -1; -3 a MOUNT.");
        for (int no : NO_ROUTES) {
            mixed.refuse(-1, "brought", no, 0);
            mixed.refuse(-1, "brought", no, 2);
            mixed.refuse(-1, "back", no);
        }
        for (int mount : MOUNTS) {
            mixed.refuse(-3, "brought", mount, 0);
            mixed.refuse(-3, "brought", mount, 2);
            mixed.refuse(-3, "back", mount);
        }
        for (int no : NO_ONE_OF_TWO) {
            mixed.refuse(-2, "brought", 0, no);
            mixed.refuse(-2, "brought", 6, no);
        }
    }

    private static void verbsAsked() {
        due.by("Promises 18, 29: -2. Promise 20: -2.");
        for (int no : NO_VERBS) {
            mixed.refuse(-2, "matched", no);
            mixed.refuse(-2, "judge", no);
            full.refuse(-2, "judge", no);
        }
        for (int no : NO_ONE_OF_TWO) {
            mixed.refuse(-2, "clash", no);
        }
    }

    private static void witness() {
        due.by("Promise 19: -1 either (one twice, too).");
        for (int no : NO_ROUTES) {
            mixed.refuse(-1, "witness", no, 0);
            mixed.refuse(-1, "witness", 2, no);
            mixed.refuse(-1, "witness", no, no);
        }
        for (int one : new int[] {0, 2, 3, 4, 5, 6}) {
            mixed.refuse(-1, "witness", one, one);
        }
    }

    private static void build() {
        due.by("Promise 21: -1 the ROUTE, any of these; -3 a MOUNT.");
        for (int no : NO_ROUTES) {
            mixed.refuse(-1, "build", no, 0, 1, 2, 3);
            mixed.refuse(-1, "build", no, 0, 4, 2, 3);
        }
        for (int no : NO_LETTERS) {
            for (int route : new int[] {0, 2}) {
                mixed.refuse(-1, "build", route, no, 0, 0, 0);
                mixed.refuse(-1, "build", route, 0, no, 0, 0);
                mixed.refuse(-1, "build", route, 0, 0, no, 0);
                mixed.refuse(-1, "build", route, 0, 0, 0, no);
            }
        }
        for (int mount : MOUNTS) {
            mixed.refuse(-3, "build", mount, 0, 1, 2, 3);
        }
    }

    private static void without() {
        due.by("Promise 23: -1 either; -2.");
        for (int no : NO_ROUTES) {
            mixed.refuse(-1, "without", no, 0, 0);
            mixed.refuse(-1, "without", no, 0, 4);
        }
        for (int no : NO_PATHS) {
            mixed.refuse(-1, "without", 0, no, 0);
            mixed.refuse(-1, "without", 0, no, 4);
        }
        for (int no : NO_VERBS) {
            mixed.refuse(-2, "without", 0, 340, no);
            mixed.refuse(-2, "without", 4, 0, no);
        }
    }

    private static void routersAsked() {
        due.by("Promises 10, 24: -1. Promise 27: -1; -2.");
        for (int no : NO_ROUTERS) {
            mixed.refuse(-1, "nodes", no);
            mixed.refuse(-1, "best", no);
            mixed.refuse(-1, "whatIs", no, 0);
            mixed.refuse(-1, "whatIs", no, 2);
        }
        for (int no : NO_ONE_OF_TWO) {
            mixed.refuse(-2, "whatIs", 0, no);
            mixed.refuse(-2, "whatIs", 2, no);
        }
    }

    private static void fractions() {
        due.by("Promise 25: refused as told: -1; -2 (VERB, part); -4; -6 20. Promise 26: -2 either.");
        for (int no : NO_PATHS) {
            mixed.refuse(-1, "lost", no, 0, 2, 0);
            mixed.refuse(-1, "lost", no, 4, 1, 2);
            mixed.refuse(-1, "lost", no, 0, 21, 0);
        }
        for (int no : NO_VERBS) {
            mixed.refuse(-2, "lost", 0, no, 2, 0);
            mixed.refuse(-2, "lost", 0, no, 1, 0);
            mixed.refuse(-2, "lost", 0, no, 21, 2);
            mixed.refuse(-2, "mean", no, 0);
            mixed.refuse(-2, "mean", no, 2);
        }
        for (int no : NO_ONE_OF_TWO) {
            mixed.refuse(-2, "lost", 340, 3, 20, no);
            mixed.refuse(-2, "lost", 340, 3, 1, no);
            mixed.refuse(-2, "lost", 340, 3, 21, no);
            mixed.refuse(-2, "mean", 3, no);
        }
        for (int part = 0; part <= 1; part++) {
            for (int t : new int[] {1, 0, -1, LEAST}) {
                mixed.refuse(-4, "lost", 0, 0, t, part);
            }
            for (int t : new int[] {21, GREATEST}) {
                mixed.refuse(-6, "lost", 0, 0, t, part);
            }
        }
    }

    private static void rows() {
        due.by("Promise 28: -4; -6 (99; 30, too).");
        for (int v : new int[] {-1, LEAST}) {
            mixed.refuse(-4, "row", v);
            full.refuse(-4, "row", v);
        }
        for (int v : new int[] {100, GREATEST}) {
            mixed.refuse(-6, "row", v);
            full.refuse(-6, "row", v);
        }
        for (int v : new int[] {0, 9, 99}) {
            full.refuse(-6, "row", v);
        }
    }

    private static void lots() {
        due.by("Promise 31: -4; -6 200; -2.");
        for (int what : new int[] {0, 1, -1, 2}) {
            for (int n : new int[] {0, -1, LEAST}) {
                mixed.refuse(-4, "lots", n, 7, what);
            }
            for (int n : new int[] {201, GREATEST}) {
                mixed.refuse(-6, "lots", n, 7, what);
            }
        }
        for (int no : NO_ONE_OF_TWO) {
            mixed.refuse(-2, "lots", 1, 7, no);
            mixed.refuse(-2, "lots", 200, -7, no);
        }
    }

    private static void image() {
        due.by("Promise 33: -3 there is none.");
        fresh.refuse(-3, "on");
        full.refuse(-3, "on");
    }

    private static void nothingAtAll() {
        due.by("Where no ROUTE ever came, every number of one is NOBODY's.");
        for (int route = 0; route < 10; route += 9) {
            fresh.refuse(-1, "verb", route, 0);
            fresh.refuse(-1, "drops", route);
            fresh.refuse(-1, "copies", route, 0);
            fresh.refuse(-1, "route", route, 0);
            fresh.refuse(-1, "segment", route, 0);
            fresh.refuse(-1, "brought", route, 0);
            fresh.refuse(-1, "witness", route, 9 - route);
            fresh.refuse(-1, "build", route, 0, 0, 0, 0);
            fresh.refuse(-1, "back", route);
            fresh.refuse(-1, "without", route, 0, 0);
        }
        for (int what = 0; what <= 5; what++) {
            fresh.refuse(-3, "bound", 0, 0, what);
        }
    }
}
