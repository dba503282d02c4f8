/** All promises: long runs by lot, each answer beside that of the slow oracle. */
public final class OracleTest {
    private static final Due due = new Due("OracleTest");
    private static final String[] NAMES = {"letter", "table", "kind", "verb", "drops", "copies", "route",
        "segment", "nodes", "letterOf", "match", "bound", "looked", "verbs", "brought", "never", "matched",
        "witness", "clash", "build", "back", "without", "best", "lost", "mean", "whatIs", "row", "judge",
        "clear", "lots", "image", "on", "count"};

    // The same runs each time: a seed a run, and the next number from the one before.
    private static long seed;
    private static RoutesByTries x;
    private static Oracle oracle;
    private static int run;
    private static int calls;

    public static void main(String[] args) {
        int runs = args.length > 0 ? Integer.parseInt(args[0]) : 300;
        for (run = 0; run < runs; run++) {
            seed = run;
            x = new RoutesByTries();
            oracle = new Oracle();
            calls = 0;
            while (calls < 400) {
                step();
            }
        }
        due.end();
    }

    private static void step() {
        if (calls == 0 || oracle.call("count", 0) < 10 && below(12) == 0) {
            tell(statements());
        } else if (below(60) == 0) {
            tell(spoilt(statements()));
        } else if (below(30) == 0) {
            tellRow();
        } else {
            ask(NAMES[below(NAMES.length)]);
        }
    }

    private static int anyInt() {
        seed = seed * 6364136223846793005L + 1442695040888963407L;
        return (int) (seed >>> 32);
    }

    private static int below(int m) {
        return (anyInt() >>> 4) % m;
    }

    /** Mostly a number that is in order, at times one about or far outside. */
    private static int about(int most) {
        int odds = below(40);
        if (odds == 0) {
            return most + 1 + below(2);
        }
        if (odds == 1) {
            return -1 - below(2);
        }
        return odds == 2 ? anyInt() : below(most + 1);
    }

    private static int aRoute() {
        int came = (int) oracle.call("count", 0);
        return below(20) == 0 ? about(9) : about(Math.max(0, came - 1));
    }

    private static int aPath() {
        return below(2) == 0 ? about(20) : about(340);
    }

    private static void tell(String text) {
        for (int i = 0; i < text.length(); i++) {
            compare("letter", text.charAt(i));
        }
        compare("table");
    }

    private static String statements() {
        StringBuilder text = new StringBuilder();
        int many = 1 + below(calls == 0 ? 9 : 3);
        for (int i = 0; i < many && text.length() < 80; i++) {
            int odds = below(20);
            if (odds < 10) {
                text.append('r').append(below(3) == 0 ? below(3) : 0).append(below(2) * below(4)).append(segments(true));
            } else if (odds < 15) {
                int router = below(2);
                text.append('m').append(router).append(router + 1 + below(2 - router)).append(segments(false));
            } else if (odds < 18) {
                text.append('k').append(below(3)).append(below(6)).append(below(5));
            } else if (below(3) == 0) {
                text.append('x').append(below(10));
            } else {
                text.append("r").append(below(4)).append(below(5)).append("/").append(segments(true)).append("a");
            }
            text.append(';');
        }
        return text.toString();
    }

    private static String segments(boolean end) {
        StringBuilder text = new StringBuilder();
        int many = below(end ? 4 : 3);
        int first = below(4);
        for (int i = 0; i < many; i++) {
            int odds = below(8);
            text.append('/');
            if (odds < 4) {
                text.append((char) ('a' + below(below(2) == 0 ? 2 : 4)));
            } else {
                text.append("<>::".charAt(odds - 4)).append((first + i) % 4);
            }
        }
        return end && below(5) == 0 ? text + "/*" : text.toString();
    }

    private static String spoilt(String text) {
        StringBuilder spoilt = new StringBuilder(text);
        int place = below(text.length());
        int odds = below(3);
        if (odds == 0) {
            spoilt.setLength(place);
        } else if (odds == 1) {
            spoilt.setCharAt(place, "rmkx0123456789/<>:*;abcde".charAt(below(25)));
        } else {
            spoilt.insert(place, "rmkx0123456789/<>:*;abcde".charAt(below(25)));
        }
        return spoilt.toString();
    }

    /** A row that is so for a kind, or nearly. */
    private static void tellRow() {
        compare("clear");
        int router = below(3);
        int old = (int) compare("kind", router, below(6), below(6));
        int[] row = new int[1 + below(30)];
        for (int i = 0; i < row.length; i++) {
            int got = (int) oracle.call("match", i, 0);
            row[i] = got < 0 ? 99 : got;
        }
        compare("kind", router, old / 10, below(2) == 0 ? old % 10 : below(6));
        if (below(3) == 0) {
            row[below(row.length)] = below(12);
        }
        for (int number : row) {
            compare("row", number);
        }
        compare("whatIs", router, 0);
        compare("whatIs", router, 1);
        compare("judge", below(2));
    }

    private static void ask(String name) {
        switch (name) {
            case "letter": compare(name, below(3) == 0 ? about(255) : "r0/a;".charAt(below(5))); break;
            case "kind": compare(name, about(2), about(5), about(below(2) == 0 ? 4 : 9)); break;
            case "verb": compare(name, aRoute(), about(3)); break;
            case "drops": if (below(4) == 0) compare(name, aRoute()); break;
            case "copies": compare(name, aRoute(), about(2)); break;
            case "route": compare(name, aRoute(), about(5)); break;
            case "segment": compare(name, aRoute(), about(3)); break;
            case "nodes": case "best": compare(name, about(2)); break;
            case "letterOf": compare(name, aPath(), about(4) - 1); break;
            case "match": case "looked": compare(name, aPath(), about(3)); break;
            case "bound": compare(name, aPath(), about(3), about(5)); break;
            case "verbs": compare(name, aPath()); break;
            case "brought": compare(name, aRoute(), about(1)); break;
            case "matched": case "judge": compare(name, about(3)); break;
            case "witness": compare(name, aRoute(), aRoute()); break;
            case "clash": compare(name, about(1)); break;
            case "build": compare(name, aRoute(), about(3), about(3), about(3), about(3)); break;
            case "back": compare(name, aRoute()); break;
            case "without": compare(name, aRoute(), aPath(), about(3)); break;
            case "lost": compare(name, aPath(), about(3), about(21), about(1)); break;
            case "mean": compare(name, about(3), about(1)); break;
            case "whatIs": compare(name, about(2), about(1)); break;
            case "row": compare(name, about(99)); break;
            case "lots": compare(name, about(201), anyInt(), about(1)); break;
            case "count": compare(name, about(17)); break;
            default: compare(name);
        }
    }

    private static long compare(String name, int... a) {
        calls++;
        String told = "run " + run + ", call " + calls + ": " + Calls.told(name, a);
        long want = oracle.call(name, a);
        due.is(told, Calls.call(x, name, a), want);
        return want;
    }
}
