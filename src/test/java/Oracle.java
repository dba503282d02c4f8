import java.util.ArrayList;
import java.util.List;
import java.util.Set;
import java.util.TreeSet;

/**
 * The document told once more, slowly and without tries kept: routes are texts, a node is a router
 * and a beginning, and every answer is found from scratch. Calls are made by name.
 */
final class Oracle {
    private static final String[] SERVED = {"01", "1", "2", "0123"};
    private static final String[] ORDERS = {"ELCARM", "ELACRM", "MELCARM", "RELACRM", "ELCARM", "ELCARM"};
    private static final long LONG = 4000000000000000000L;

    /** A route: segments are "a".."d", "<n", ">n", ":n", "*". */
    private record Route(int router, int verb, int mounted, List<String> segments, boolean there) {
        boolean mount() {
            return mounted >= 0;
        }

        boolean rest() {
            return !segments.isEmpty() && segments.get(segments.size() - 1).equals("*");
        }

        List<String> plain() {
            return rest() ? segments.subList(0, segments.size() - 1) : segments;
        }

        /** The beginning told as a text, without parameters. */
        String beginning(int size) {
            StringBuilder text = new StringBuilder();
            for (String segment : plain().subList(0, size)) {
                text.append(segment.charAt(0));
            }
            return text.toString();
        }

        Route dropped() {
            return new Route(router, verb, mounted, segments, false);
        }
    }

    private record State(List<Route> routes, int[] kinds, int[] figures) {
        State copy() {
            return new State(new ArrayList<>(routes), kinds.clone(), figures.clone());
        }

        boolean there(int route) {
            return route >= 0 && route < routes.size() && routes.get(route).there;
        }
    }

    private State now = new State(new ArrayList<>(), new int[3], new int[3]);
    private State image;
    private final List<Integer> row = new ArrayList<>();
    private final StringBuilder letters = new StringBuilder();
    private final long[] refused = new long[7];

    // What the last match found on its way.
    private long looked;
    private int end;
    private List<int[]> way;
    private int wayEnd;

    long call(String name, int... a) {
        long answer = answer(name, a);
        long small = answer >= LONG ? LONG - answer : answer;
        boolean refusable = !name.equals("table") && small < 0 && small >= -6;
        if (refusable) {
            refused[(int) -small]++;
        }
        return answer;
    }

    private long answer(String name, int[] a) {
        switch (name) {
            case "letter":
                if (a[0] < 0) return -4;
                if (a[0] > 255 || letters.length() == 96) return -6;
                return letters.append((char) a[0]).length();
            case "table": return table();
            case "kind": return kind(a[0], a[1], a[2]);
            case "verb": return verb(a[0], a[1]);
            case "drops":
                if (!now.there(a[0])) return -1;
                now.routes.set(a[0], now.routes.get(a[0]).dropped());
                return there().size();
            case "copies": return copies(a[0], a[1]);
            case "route": return route(a[0], a[1]);
            case "segment": return segment(a[0], a[1]);
            case "nodes": return a[0] < 0 || a[0] > 2 ? -1 : nodes(a[0]);
            case "letterOf":
                if (badPath(a[0]) || a[1] < -1 || a[1] >= PATHS.get(a[0]).length()) return -1;
                return a[1] < 0 ? PATHS.get(a[0]).length() : PATHS.get(a[0]).charAt(a[1]) - 'a';
            case "match":
                if (badPath(a[0])) return -1;
                return badVerb(a[1]) ? -2 : match(now, a[0], a[1]);
            case "bound": return bound(a[0], a[1], a[2]);
            case "looked":
                if (badPath(a[0])) return -1;
                if (badVerb(a[1])) return -2;
                match(now, a[0], a[1]);
                return looked;
            case "verbs":
                if (badPath(a[0])) return -1;
                long bits = 0;
                for (int v = 0; v < 4; v++) bits |= match(now, a[0], v) >= 0 ? 1 << v : 0;
                return bits;
            case "brought": return brought(a[0], a[1]);
            case "never":
                long never = 0;
                for (int r : there()) {
                    if (!now.routes.get(r).mount() && bringing(r).isEmpty()) never |= 1 << r;
                }
                return never;
            case "matched": return badVerb(a[0]) ? -2 : matched(now, a[0])[0];
            case "witness": return witness(a[0], a[1]);
            case "clash": return clash(a[0]);
            case "build": return build(a);
            case "back": return back(a[0]);
            case "without":
                if (!now.there(a[0]) || badPath(a[1])) return -1;
                if (badVerb(a[2])) return -2;
                State less = now.copy();
                less.routes.set(a[0], less.routes.get(a[0]).dropped());
                return match(less, a[1], a[2]);
            case "best": return best(a[0]);
            case "lost": return lost(a[0], a[1], a[2], a[3]);
            case "mean":
                if (badVerb(a[0]) || a[1] < 0 || a[1] > 1) return LONG + 2;
                return fraction(matched(now, a[0])[1], 341, a[1]);
            case "whatIs": return whatIs(a[0], a[1]);
            case "row":
                if (a[0] < 0) return -4;
                if (a[0] > 99 || row.size() == 30) return -6;
                row.add(a[0]);
                return row.size();
            case "judge":
                if (badVerb(a[0])) return -2;
                long first = notSo(now, a[0]);
                row.clear();
                return first;
            case "clear":
                long had = row.size();
                row.clear();
                return had;
            case "lots": return lots(a[0], a[1], a[2]);
            case "image":
                image = now.copy();
                return there().size();
            case "on":
                if (image == null) return -3;
                now = image.copy();
                return there().size();
            case "count": return count(a[0]);
            default: throw new IllegalArgumentException(name);
        }
    }

    private static final List<String> PATHS = paths();

    private static List<String> paths() {
        List<String> all = new ArrayList<>(List.of(""));
        for (int i = 0; all.size() < 341; i++) {
            for (char c = 'a'; c <= 'd'; c++) all.add(all.get(i) + c);
        }
        return all;
    }

    private static boolean badPath(int path) {
        return path < 0 || path > 340;
    }

    private static boolean badVerb(int verb) {
        return verb < 0 || verb > 3;
    }

    private List<Integer> there() {
        List<Integer> found = new ArrayList<>();
        for (int i = 0; i < now.routes.size(); i++) {
            if (now.routes.get(i).there) found.add(i);
        }
        return found;
    }

    private static final String SEGMENT = "/([a-d]|[<>:][0-9]|\\*)";
    private static final String STATEMENT = "([rm][0-9][0-9](" + SEGMENT + ")*|k[0-9][0-9][0-9]|x[0-9]);";

    /** Whether some way on makes a table of the text: a few ends are all that can be needed. */
    private static boolean mayGoOn(String text) {
        for (String more : new String[] {"", ";", "0;", "00;", "000;", "a;", "x0;"}) {
            if ((text + more).matches("(" + STATEMENT + ")+")) return true;
        }
        return false;
    }

    private long table() {
        String text = letters.toString();
        letters.setLength(0);
        for (int i = 0; i < text.length(); i++) {
            if (!mayGoOn(text.substring(0, i + 1))) return -1000 - i;
        }
        if (!text.endsWith(";")) return -1000 - text.length();
        State next = now.copy();
        int place = 0;
        int many = 0;
        for (String statement : text.split(";")) {
            if (!obeyed(next, statement)) return -2000 - place;
            place += statement.length() + 1;
            many++;
        }
        now = next;
        return many;
    }

    private static boolean obeyed(State state, String statement) {
        int one = statement.charAt(1) - '0';
        char what = statement.charAt(0);
        if (what == 'x') {
            if (!state.there(one)) return false;
            state.routes.set(one, state.routes.get(one).dropped());
            return true;
        }
        int two = statement.charAt(2) - '0';
        if (one > 2) return false;
        if (what == 'k') {
            if (two > 5) return false;
            state.kinds[one] = two;
            state.figures[one] = statement.charAt(3) - '0';
            return true;
        }
        String rest = statement.substring(3);
        List<String> segments = rest.isEmpty() ? List.of() : List.of(rest.substring(1).split("/"));
        boolean mount = what == 'm';
        int star = segments.indexOf("*");
        Set<Character> named = new TreeSet<>();
        for (String s : segments) {
            if (s.length() == 2 && (s.charAt(1) > '3' || !named.add(s.charAt(1)))) return false;
        }
        if (segments.size() > 4 || star >= 0 && (star < segments.size() - 1 || mount)) return false;
        if (mount ? two > 2 || two <= one : two > 3) return false;
        if (state.routes.size() == 10) return false;
        state.routes.add(new Route(one, mount ? -9 : two, mount ? two : -9, segments, true));
        return true;
    }

    private long kind(int router, int kind, int figure) {
        if (router < 0 || router > 2) return -1;
        if (kind < 0 || kind > 5) return -2;
        if (figure < 0) return -4;
        if (figure > 9) return -6;
        int old = now.kinds[router] * 10 + now.figures[router];
        now.kinds[router] = kind;
        now.figures[router] = figure;
        return old;
    }

    private long verb(int route, int verb) {
        if (!now.there(route)) return -1;
        Route r = now.routes.get(route);
        if (r.mount()) return -3;
        if (badVerb(verb)) return -2;
        now.routes.set(route, new Route(r.router, verb, -9, r.segments, true));
        return r.verb;
    }

    private long copies(int route, int router) {
        if (!now.there(route) || router < 0 || router > 2) return -1;
        Route r = now.routes.get(route);
        if (r.mount() && r.mounted <= router) return -3;
        if (now.routes.size() == 10) return -6;
        now.routes.add(new Route(router, r.verb, r.mounted, r.segments, true));
        return now.routes.size() - 1;
    }

    private long route(int route, int what) {
        if (!now.there(route)) return -1;
        Route r = now.routes.get(route);
        switch (what) {
            case 0: return r.router;
            case 1: return r.verb;
            case 2: return r.mounted;
            case 3: return r.segments.size();
            case 4: return r.segments.stream().filter(s -> s.length() == 2).mapToInt(s -> 1 << s.charAt(1) - '0').sum();
            case 5: return r.rest() ? 1 : 0;
            default: return -2;
        }
    }

    private long segment(int route, int i) {
        if (!now.there(route) || i < 0 || i >= now.routes.get(route).segments.size()) return -1;
        String s = now.routes.get(route).segments.get(i);
        int first = "abcd<>:*".indexOf(s.charAt(0));
        return first < 4 ? first : first == 7 ? 40 : 10 * (first - 3) + s.charAt(1) - '0';
    }

    private int nodes(int router) {
        Set<String> nodes = new TreeSet<>(List.of(""));
        for (int i : there()) {
            Route r = now.routes.get(i);
            for (int j = 0; r.router == router && j <= r.plain().size(); j++) nodes.add(r.beginning(j));
        }
        return nodes.size();
    }

    private int match(State state, int path, int verb) {
        looked = 0;
        end = -9;
        look(state, 0, "", PATHS.get(path), verb, path, new ArrayList<>());
        return end;
    }

    private static boolean isNode(State state, int router, String beginning) {
        for (Route r : state.routes) {
            boolean long_ = r.there && r.router == router && r.plain().size() >= beginning.length();
            if (long_ && r.beginning(beginning.length()).equals(beginning)) return true;
        }
        return false;
    }

    /** The way is the mounts so far, each with the place of the path at which it was taken. */
    private boolean look(State s, int router, String at, String left, int verb, int path, List<int[]> mounts) {
        looked++;
        int kind = s.kinds[router];
        if (kind == 5 && left.length() > s.figures[router]) return false;
        for (char step : ORDERS[kind].toCharArray()) {
            if (step == 'E' || step == 'R') {
                if (brings(s, router, at, left, verb, step == 'R', path, mounts)) return true;
            } else if (step == 'M') {
                for (int i = 0; i < s.routes.size(); i++) {
                    Route r = s.routes.get(i);
                    if (!r.there || !r.mount() || r.router != router || !r.beginning(r.plain().size()).equals(at)) continue;
                    List<int[]> more = new ArrayList<>(mounts);
                    more.add(new int[] {i, PATHS.get(path).length() - left.length()});
                    if (look(s, r.mounted, "", left, verb, path, more)) return true;
                }
            } else if (!left.isEmpty()) {
                char next = left.charAt(0);
                char edge = step == 'L' ? next : step == 'A' ? ':' : next < 'c' ? '<' : '>';
                if (!isNode(s, router, at + edge)) continue;
                if (look(s, router, at + edge, left.substring(1), verb, path, mounts)) return true;
                if (kind >= 4) return false;
            }
        }
        return false;
    }

    private boolean brings(State s, int router, String at, String left, int verb, boolean rest, int path, List<int[]> mounts) {
        if (!rest && !left.isEmpty()) return false;
        for (int i = 0; i < s.routes.size(); i++) {
            Route r = s.routes.get(i);
            boolean fits = r.there && !r.mount() && r.router == router && r.rest() == rest;
            if (fits && r.beginning(r.plain().size()).equals(at) && SERVED[r.verb].indexOf('0' + verb) >= 0) {
                end = i;
                way = new ArrayList<>(mounts);
                wayEnd = PATHS.get(path).length() - left.length();
                return true;
            }
        }
        return false;
    }

    private long bound(int path, int verb, int what) {
        if (badPath(path)) return -1;
        if (badVerb(verb) || what < 0 || what > 5) return -2;
        if (match(now, path, verb) < 0) return -3;
        if (what == 5) return way.size();
        if (what == 4) return now.routes.get(end).rest() ? PATHS.get(path).length() - wayEnd : -9;
        // Backwards from the end: each route's segments stand right ahead of where it was left.
        List<int[]> all = new ArrayList<>(way);
        all.add(new int[] {end, wayEnd});
        for (int i = all.size() - 1; i >= 0; i--) {
            List<String> segments = now.routes.get(all.get(i)[0]).plain();
            for (int j = 0; j < segments.size(); j++) {
                if (segments.get(j).length() == 2 && segments.get(j).charAt(1) - '0' == what) {
                    return PATHS.get(path).charAt(all.get(i)[1] - segments.size() + j) - 'a';
                }
            }
        }
        return -9;
    }

    private int asked(int route) {
        return now.routes.get(route).verb % 3;
    }

    private List<Integer> bringing(int route) {
        List<Integer> found = new ArrayList<>();
        for (int p = 0; p < 341; p++) {
            if (match(now, p, asked(route)) == route) found.add(p);
        }
        return found;
    }

    private long brought(int route, int what) {
        if (!now.there(route)) return -1;
        if (now.routes.get(route).mount()) return -3;
        if (what < 0 || what > 1) return -2;
        List<Integer> found = bringing(route);
        return what == 0 ? found.size() : found.isEmpty() ? -9 : found.get(0);
    }

    private long[] matched(State state, int verb) {
        long[] sums = new long[2];
        for (int p = 0; p < 341; p++) {
            sums[0] += match(state, p, verb) >= 0 ? 1 : 0;
            sums[1] += looked;
        }
        return sums;
    }

    private static boolean takes(Route r, String path) {
        StringBuilder pattern = new StringBuilder();
        for (String s : r.plain()) {
            char first = s.charAt(0);
            pattern.append(first == '<' ? "[ab]" : first == '>' ? "[cd]" : first == ':' ? "." : s);
        }
        return path.matches(pattern + (r.rest() || r.mount() ? ".*" : ""));
    }

    private long witness(int a, int b) {
        if (!now.there(a) || !now.there(b) || a == b) return -1;
        for (int p = 0; p < 341; p++) {
            if (takes(now.routes.get(a), PATHS.get(p)) && takes(now.routes.get(b), PATHS.get(p))) return p;
        }
        return -9;
    }

    private long clash(int what) {
        if (what < 0 || what > 1) return -2;
        long many = 0;
        long least = -9;
        for (int a : there()) {
            for (int b : there()) {
                Route r = now.routes.get(a);
                Route s = now.routes.get(b);
                if (a >= b || r.mount() || s.mount() || r.router != s.router || r.rest() != s.rest()) continue;
                boolean both = false;
                for (char v : SERVED[r.verb].toCharArray()) both |= SERVED[s.verb].indexOf(v) >= 0;
                if (!both || !r.beginning(r.plain().size()).equals(s.beginning(s.plain().size()))) continue;
                least = many++ == 0 ? a : least;
            }
        }
        return what == 0 ? many : least;
    }

    /** The segments of the way to a router, or null. */
    private List<String> wayTo(int router) {
        if (router == 0) return new ArrayList<>();
        for (int i : there()) {
            Route r = now.routes.get(i);
            List<String> before = r.mounted == router ? wayTo(r.router) : null;
            if (before != null) {
                before.addAll(r.segments);
                return before;
            }
        }
        return null;
    }

    private int built(int route, int... p) {
        List<String> all = wayTo(now.routes.get(route).router);
        if (all == null) return -9;
        all.addAll(now.routes.get(route).plain());
        StringBuilder path = new StringBuilder();
        for (String s : all) {
            int value = s.length() == 2 ? p[s.charAt(1) - '0'] : s.charAt(0) - 'a';
            if (s.charAt(0) == '<' && value > 1 || s.charAt(0) == '>' && value < 2) return -9;
            path.append((char) ('a' + value));
        }
        int number = PATHS.indexOf(path.toString());
        return number < 0 ? -9 : number;
    }

    private long build(int[] a) {
        if (!now.there(a[0])) return -1;
        for (int i = 1; i <= 4; i++) {
            if (a[i] < 0 || a[i] > 3) return -1;
        }
        return now.routes.get(a[0]).mount() ? -3 : built(a[0], a[1], a[2], a[3], a[4]);
    }

    private long back(int route) {
        if (!now.there(route)) return -1;
        if (now.routes.get(route).mount()) return -3;
        long many = 0;
        for (int i = 0; i < 256; i++) {
            int path = built(route, i % 4, i / 4 % 4, i / 16 % 4, i / 64);
            many += path >= 0 && match(now, path, asked(route)) == route ? 1 : 0;
        }
        return many;
    }

    private long best(int router) {
        if (router < 0 || router > 2) return -1;
        long best = -1;
        long[] had = null;
        for (int kind = 0; kind < 6; kind++) {
            State state = now.copy();
            state.kinds[router] = kind;
            long[] sums = matched(state, 0);
            if (had == null || sums[0] > had[0] || sums[0] == had[0] && sums[1] < had[1]) {
                best = kind;
                had = sums;
            }
        }
        return best;
    }

    private long lost(int path, int verb, int t, int part) {
        if (badPath(path)) return LONG + 1;
        if (badVerb(verb) || part < 0 || part > 1) return LONG + 2;
        if (t < 2) return LONG + 4;
        if (t > 20) return LONG + 6;
        long below = (long) Math.pow(t, 6);
        return fraction(lostAbove(now.copy(), 0, path, verb, t), below, part);
    }

    /** A route that is not there either way counts t times as much, so all is over t to the sixth. */
    private long lostAbove(State state, int route, int path, int verb, int t) {
        if (route == 6) return match(state, path, verb) >= 0 ? 1 : 0;
        long with = lostAbove(state, route + 1, path, verb, t);
        if (!state.there(route)) return t * with;
        State less = state.copy();
        less.routes.set(route, less.routes.get(route).dropped());
        return (t - 1) * with + lostAbove(less, route + 1, path, verb, t);
    }

    private static long fraction(long above, long below, int part) {
        long divisor = java.math.BigInteger.valueOf(above).gcd(java.math.BigInteger.valueOf(below)).longValue();
        return (part == 0 ? above : below) / divisor;
    }

    private long notSo(State state, int verb) {
        for (int i = 0; i < row.size(); i++) {
            int got = match(state, i, verb);
            if (row.get(i) != (got < 0 ? 99 : got)) return i;
        }
        return -9;
    }

    private long whatIs(int router, int what) {
        if (router < 0 || router > 2) return -1;
        if (what < 0 || what > 1) return -2;
        long bits = 0;
        for (int i = 0; i < (what == 0 ? 6 : 10); i++) {
            State state = now.copy();
            (what == 0 ? state.kinds : state.figures)[router] = i;
            if (notSo(state, 0) == -9) bits |= 1 << i;
        }
        return bits;
    }

    private long lots(int n, int z, int what) {
        if (n < 1) return -4;
        if (n > 200) return -6;
        if (what < 0 || what > 1) return -2;
        long seed = z;
        long[] sums = new long[2];
        for (int i = 0; i < n; i++) {
            seed = (int) (seed * 1664525 + 1013904223);
            int path = (int) ((seed & 0x7fffffffL) >> 8) % 341;
            seed = (int) (seed * 1664525 + 1013904223);
            int verb = (int) ((seed & 0x7fffffffL) >> 8) % 4;
            sums[0] += match(now, path, verb) >= 0 ? 1 : 0;
            sums[1] += looked;
        }
        return sums[what];
    }

    private long count(int what) {
        long bits = 0;
        switch (what) {
            case 0: return now.routes.size();
            case 1:
                for (int i : there()) bits |= 1 << i;
                return bits;
            case 2:
                for (int i : there()) bits |= now.routes.get(i).mount() ? 1 << i : 0;
                return bits;
            case 3:
                for (int i : there()) bits += now.routes.get(i).segments.size();
                return bits;
            case 4: return nodes(0) + nodes(1) + nodes(2);
            case 5: return row.size();
            case 6: return letters.length();
            default: return what >= 11 && what <= 16 ? refused[what - 10] : -9;
        }
    }
}
