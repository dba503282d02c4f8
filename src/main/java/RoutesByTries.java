/** Routes of paths, told in letters, held in tries that are looked at the most special first. */
public final class RoutesByTries {
    private static final int NOBODY = -1;
    private static final int OTHER = -2;
    private static final int STATE = -3;
    private static final int BELOW = -4;
    private static final int ROOM = -6;
    private static final int NONE = -9;
    private static final long REFUSED_LONG = 4000000000000000000L;

    private static final int ROUTERS = 3;
    private static final int ROUTES = 10;
    private static final int MOST_SEGMENTS = 4;
    private static final int PARAMETERS = 4;
    private static final int BUILDS = 256;
    private static final int PATHS = 341;
    private static final int MOST_LETTERS = 4;
    private static final int MOST_TOLD = 96;
    private static final int MOST_IN_ROW = 30;
    private static final int ROW_NOTHING = 99;
    private static final int GREATEST_FIGURE = 9;
    private static final int DOUBTFUL_ROUTES = 6;
    private static final int GREATEST_ODDS = 20;
    private static final int MOST_LOTS = 200;

    private static final int VERBS = 4;
    private static final int GET = 0;
    private static final int HEAD = 1;
    private static final int PUT = 2;
    private static final int ALL = 3;

    private static final int KINDS = 6;
    private static final int STRICT = 4;
    private static final int SHORT = 5;

    private static final int LOW = 10;
    private static final int HIGH = 20;
    private static final int ANY = 30;
    private static final int REST = 40;

    private final Book book = new Book();
    private final Book trial = new Book();
    private final Book kept = new Book();
    private final Walk walk = new Walk();
    private final Pile told = new Pile(MOST_TOLD);
    private final Pile row = new Pile(MOST_IN_ROW);
    private final Pile built = new Pile(MOST_LETTERS);
    private final int[] given = new int[PARAMETERS];
    private final int[] refusals = new int[7];
    private boolean hasImage;

    public RoutesByTries() {
    }

    public int letter(int c) {
        if (c < 0) {
            return refuse(BELOW);
        }
        if (c > 255 || told.isFull()) {
            return refuse(ROOM);
        }
        told.add(c);
        return told.size;
    }

    public int table() {
        trial.copyFrom(book);
        int answer = Reader.read(told, trial);
        if (answer >= 0) {
            book.copyFrom(trial);
            walk.trie.grow(book);
        }
        told.size = 0;
        return answer;
    }

    public int kind(int router, int kind, int figure) {
        if (!isRouter(router)) {
            return refuse(NOBODY);
        }
        if (kind < 0 || kind >= KINDS) {
            return refuse(OTHER);
        }
        if (figure < 0) {
            return refuse(BELOW);
        }
        if (figure > GREATEST_FIGURE) {
            return refuse(ROOM);
        }
        int old = 10 * numberAt(book.kinds, router) + numberAt(book.figures, router);
        put(book.kinds, router, kind);
        put(book.figures, router, figure);
        walk.trie.grow(book);
        return old;
    }

    public int verb(int route, int verb) {
        if (!book.isThere(route)) {
            return refuse(NOBODY);
        }
        Route changed = book.at(route);
        if (changed.isMount()) {
            return refuse(STATE);
        }
        if (!isVerb(verb)) {
            return refuse(OTHER);
        }
        int old = changed.verb;
        changed.verb = verb;
        walk.trie.grow(book);
        return old;
    }

    public int drops(int route) {
        if (!book.isThere(route)) {
            return refuse(NOBODY);
        }
        book.at(route).there = false;
        walk.trie.grow(book);
        return Integer.bitCount(book.thereBits());
    }

    public int copies(int route, int router) {
        if (!book.isThere(route) || !isRouter(router)) {
            return refuse(NOBODY);
        }
        Route first = book.at(route);
        if (first.isMount() && first.mounted <= router) {
            return refuse(STATE);
        }
        if (book.isFull()) {
            return refuse(ROOM);
        }
        Route copy = book.draft();
        copy.copyFrom(first);
        copy.router = router;
        book.addDraft();
        walk.trie.grow(book);
        return book.came - 1;
    }

    public int route(int route, int what) {
        if (!book.isThere(route)) {
            return refuse(NOBODY);
        }
        Route asked = book.at(route);
        switch (what) {
            case 0:
                return asked.router;
            case 1:
                return asked.verb;
            case 2:
                return asked.mounted;
            case 3:
                return asked.size;
            case 4:
                return asked.parameterBits();
            case 5:
                return asked.hasRest() ? 1 : 0;
            default:
                return refuse(OTHER);
        }
    }

    public int segment(int route, int i) {
        if (!book.isThere(route) || i < 0 || i >= book.at(route).size) {
            return refuse(NOBODY);
        }
        return book.at(route).segmentAt(i);
    }

    public int nodes(int router) {
        if (!isRouter(router)) {
            return refuse(NOBODY);
        }
        return walk.trie.nodesOf(router);
    }

    public int letterOf(int path, int i) {
        if (!isPath(path)) {
            return refuse(NOBODY);
        }
        Paths.read(path, walk.path);
        if (i < -1 || i >= walk.path.size) {
            return refuse(NOBODY);
        }
        return i == -1 ? walk.path.size : walk.path.at(i);
    }

    public int match(int path, int verb) {
        if (!isPath(path)) {
            return refuse(NOBODY);
        }
        if (!isVerb(verb)) {
            return refuse(OTHER);
        }
        return walk.bring(path, verb, book.thereBits());
    }

    public int bound(int path, int verb, int what) {
        if (!isPath(path)) {
            return refuse(NOBODY);
        }
        if (!isVerb(verb) || what < 0 || what > 5) {
            return refuse(OTHER);
        }
        int end = walk.bring(path, verb, book.thereBits());
        if (end < 0) {
            return refuse(STATE);
        }
        if (what == 5) {
            return walk.mounts;
        }
        if (what == 4) {
            return book.at(end).hasRest() ? walk.taken : NONE;
        }
        return letterBound(end, what);
    }

    public int looked(int path, int verb) {
        if (!isPath(path)) {
            return refuse(NOBODY);
        }
        if (!isVerb(verb)) {
            return refuse(OTHER);
        }
        walk.bring(path, verb, book.thereBits());
        return walk.seen;
    }

    public int verbs(int path) {
        if (!isPath(path)) {
            return refuse(NOBODY);
        }
        int there = book.thereBits();
        int bits = 0;
        for (int verb = 0; verb < VERBS; verb++) {
            if (walk.bring(path, verb, there) >= 0) {
                bits |= 1 << verb;
            }
        }
        return bits;
    }

    public int brought(int route, int what) {
        if (!book.isThere(route)) {
            return refuse(NOBODY);
        }
        if (book.at(route).isMount()) {
            return refuse(STATE);
        }
        if (!isOneOfTwo(what)) {
            return refuse(OTHER);
        }
        int verb = askedVerb(route);
        int there = book.thereBits();
        int many = 0;
        int least = NONE;
        for (int path = 0; path < PATHS; path++) {
            if (walk.bring(path, verb, there) == route) {
                least = many == 0 ? path : least;
                many++;
            }
        }
        return what == 0 ? many : least;
    }

    public int never() {
        int there = book.thereBits();
        int bits = there & ~book.mountBits();
        for (int verb = GET; verb <= PUT; verb++) {
            for (int path = 0; path < PATHS; path++) {
                int end = walk.bring(path, verb, there);
                if (end >= 0 && askedVerb(end) == verb) {
                    bits &= ~(1 << end);
                }
            }
        }
        return bits;
    }

    public int matched(int verb) {
        if (!isVerb(verb)) {
            return refuse(OTHER);
        }
        walk.bringAll(verb, book.thereBits());
        return walk.allBrought;
    }

    public int witness(int a, int b) {
        if (!book.isThere(a) || !book.isThere(b) || a == b) {
            return refuse(NOBODY);
        }
        Route first = book.at(a);
        Route second = book.at(b);
        for (int path = 0; path < PATHS; path++) {
            Paths.read(path, walk.path);
            if (first.takes(walk.path) && second.takes(walk.path)) {
                return path;
            }
        }
        return NONE;
    }

    public int clash(int what) {
        if (!isOneOfTwo(what)) {
            return refuse(OTHER);
        }
        int many = 0;
        int least = NONE;
        for (int i = 0; i < ROUTES; i++) {
            for (int j = i + 1; j < ROUTES; j++) {
                if (clashing(i, j)) {
                    least = many == 0 ? i : least;
                    many++;
                }
            }
        }
        return what == 0 ? many : least;
    }

    public int build(int route, int a, int b, int c, int d) {
        boolean lettersAll = isLetter(a) && isLetter(b) && isLetter(c) && isLetter(d);
        if (!book.isThere(route) || !lettersAll) {
            return refuse(NOBODY);
        }
        if (book.at(route).isMount()) {
            return refuse(STATE);
        }
        give(a, b, c, d);
        return pathBuilt(route);
    }

    public int back(int route) {
        if (!book.isThere(route)) {
            return refuse(NOBODY);
        }
        if (book.at(route).isMount()) {
            return refuse(STATE);
        }
        int there = book.thereBits();
        int verb = askedVerb(route);
        int many = 0;
        for (int i = 0; i < BUILDS; i++) {
            give(i >> 6 & 3, i >> 4 & 3, i >> 2 & 3, i & 3);
            int path = pathBuilt(route);
            if (path >= 0 && walk.bring(path, verb, there) == route) {
                many++;
            }
        }
        return many;
    }

    public int without(int route, int path, int verb) {
        if (!book.isThere(route) || !isPath(path)) {
            return refuse(NOBODY);
        }
        if (!isVerb(verb)) {
            return refuse(OTHER);
        }
        return walk.bring(path, verb, book.thereBits() & ~(1 << route));
    }

    public int best(int router) {
        if (!isRouter(router)) {
            return refuse(NOBODY);
        }
        int there = book.thereBits();
        int best = 0;
        int most = -1;
        int least = 0;
        for (int kind = 0; kind < KINDS; kind++) {
            put(walk.trie.kinds, router, kind);
            walk.bringAll(GET, there);
            if (walk.allBrought > most || walk.allBrought == most && walk.allSeen < least) {
                best = kind;
                most = walk.allBrought;
                least = walk.allSeen;
            }
        }
        put(walk.trie.kinds, router, numberAt(book.kinds, router));
        return best;
    }

    public long lost(int path, int verb, int t, int part) {
        if (!isPath(path)) {
            return refuseLong(NOBODY);
        }
        if (!isVerb(verb) || !isOneOfTwo(part)) {
            return refuseLong(OTHER);
        }
        if (t < 2) {
            return refuseLong(BELOW);
        }
        if (t > GREATEST_ODDS) {
            return refuseLong(ROOM);
        }
        int there = book.thereBits();
        int subsets = 1 << DOUBTFUL_ROUTES;
        int doubtful = there & subsets - 1;
        long above = 0;
        for (int gone = 0; gone < subsets; gone++) {
            boolean possible = (gone & ~doubtful) == 0;
            if (possible && walk.bring(path, verb, there & ~gone) >= 0) {
                above += power(t - 1, Integer.bitCount(doubtful & ~gone));
            }
        }
        return partOfFraction(above, power(t, Integer.bitCount(doubtful)), part);
    }

    public long mean(int verb, int part) {
        if (!isVerb(verb) || !isOneOfTwo(part)) {
            return refuseLong(OTHER);
        }
        walk.bringAll(verb, book.thereBits());
        return partOfFraction(walk.allSeen, PATHS, part);
    }

    public int whatIs(int router, int what) {
        if (!isRouter(router)) {
            return refuse(NOBODY);
        }
        if (!isOneOfTwo(what)) {
            return refuse(OTHER);
        }
        int[] changed = what == 0 ? walk.trie.kinds : walk.trie.figures;
        int many = what == 0 ? KINDS : GREATEST_FIGURE + 1;
        int old = numberAt(changed, router);
        int bits = 0;
        for (int i = 0; i < many; i++) {
            put(changed, router, i);
            if (firstNotSo(GET) < 0) {
                bits |= 1 << i;
            }
        }
        put(changed, router, old);
        return bits;
    }

    public int row(int v) {
        if (v < 0) {
            return refuse(BELOW);
        }
        if (v > 99 || row.isFull()) {
            return refuse(ROOM);
        }
        row.add(v);
        return row.size;
    }

    public int judge(int verb) {
        if (!isVerb(verb)) {
            return refuse(OTHER);
        }
        int first = firstNotSo(verb);
        row.size = 0;
        return first;
    }

    public int clear() {
        int had = row.size;
        row.size = 0;
        return had;
    }

    public int lots(int n, int z, int what) {
        if (n < 1) {
            return refuse(BELOW);
        }
        if (n > MOST_LOTS) {
            return refuse(ROOM);
        }
        if (!isOneOfTwo(what)) {
            return refuse(OTHER);
        }
        int there = book.thereBits();
        int many = 0;
        int seen = 0;
        int seed = z;
        for (int i = 0; i < n; i++) {
            seed = nextSeed(seed);
            int path = drawn(seed) % PATHS;
            seed = nextSeed(seed);
            int verb = drawn(seed) % VERBS;
            if (walk.bring(path, verb, there) >= 0) {
                many++;
            }
            seen += walk.seen;
        }
        return what == 0 ? many : seen;
    }

    public int image() {
        kept.copyFrom(book);
        hasImage = true;
        return Integer.bitCount(book.thereBits());
    }

    public int on() {
        if (!hasImage) {
            return refuse(STATE);
        }
        book.copyFrom(kept);
        walk.trie.grow(book);
        return Integer.bitCount(book.thereBits());
    }

    public int count(int what) {
        switch (what) {
            case 0:
                return book.came;
            case 1:
                return book.thereBits();
            case 2:
                return book.mountBits();
            case 3:
                return book.segmentsThere();
            case 4:
                return walk.trie.size;
            case 5:
                return row.size;
            case 6:
                return told.size;
            default:
                return what >= 11 && what <= 16 ? numberAt(refusals, what - 10) : NONE;
        }
    }

    private int refuse(int number) {
        put(refusals, -number, numberAt(refusals, -number) + 1);
        return number;
    }

    private long refuseLong(int number) {
        return REFUSED_LONG - refuse(number);
    }

    /** The VERB by which an END is asked for: no PATH could want ALL of a GET alone. */
    private int askedVerb(int end) {
        int verb = book.at(end).verb;
        return verb == ALL ? GET : verb;
    }

    /** Further on comes later, so the last of all that bind the PARAMETER is the one that holds. */
    private int letterBound(int end, int parameter) {
        int letter = NONE;
        for (int i = 0; i <= walk.mounts && i < ROUTERS; i++) {
            int number = i < walk.mounts ? numberAt(walk.trail, i) : end;
            int place = book.at(number).placeOf(parameter);
            if (place >= 0) {
                letter = walk.path.at(numberAt(walk.starts, i) + place);
            }
        }
        return letter;
    }

    private boolean clashing(int a, int b) {
        if (!book.isThere(a) || !book.isThere(b)) {
            return false;
        }
        Route first = book.at(a);
        Route second = book.at(b);
        boolean ends = !first.isMount() && !second.isMount() && first.router == second.router;
        return ends && first.isAlike(second) && (served(first.verb) & served(second.verb)) != 0;
    }

    private void give(int a, int b, int c, int d) {
        put(given, 0, a);
        put(given, 1, b);
        put(given, 2, c);
        put(given, 3, d);
    }

    private int pathBuilt(int end) {
        built.size = 0;
        Route own = book.at(end);
        boolean whole = layWay(own.router, 0) && lay(own);
        return whole ? Paths.numberOf(built) : NONE;
    }

    private boolean layWay(int router, int depth) {
        if (router == 0) {
            return true;
        }
        int mount = numberAt(walk.trie.ways, router);
        if (mount < 0 || depth >= ROUTERS) {
            return false;
        }
        Route step = book.at(mount);
        return layWay(step.router, depth + 1) && lay(step);
    }

    private boolean lay(Route route) {
        for (int i = 0; i < route.plain; i++) {
            int segment = route.segmentAt(i);
            int letter = segment < LOW ? segment : numberAt(given, segment % 10);
            if (!fits(segment, letter) || built.isFull()) {
                return false;
            }
            built.add(letter);
        }
        return true;
    }

    private int firstNotSo(int verb) {
        int there = book.thereBits();
        for (int i = 0; i < row.size; i++) {
            int end = walk.bring(i, verb, there);
            if (row.at(i) != (end < 0 ? ROW_NOTHING : end)) {
                return i;
            }
        }
        return NONE;
    }

    private static boolean isRouter(int router) {
        return router >= 0 && router < ROUTERS;
    }

    private static boolean isPath(int path) {
        return path >= 0 && path < PATHS;
    }

    private static boolean isVerb(int verb) {
        return verb >= 0 && verb < VERBS;
    }

    private static boolean isLetter(int letter) {
        return letter >= 0 && letter < 4;
    }

    private static boolean isOneOfTwo(int what) {
        return what == 0 || what == 1;
    }

    private static boolean has(int bits, int place) {
        return place >= 0 && place < 32 && (bits >> place & 1) != 0;
    }

    private static int leastOf(int bits) {
        for (int i = 0; bits != 0 && i < ROUTES; i++) {
            if (has(bits, i)) {
                return i;
            }
        }
        return NONE;
    }

    private static int numberAt(int[] numbers, int place) {
        return place >= 0 && place < numbers.length ? numbers[place] : 0;
    }

    private static void put(int[] numbers, int place, int number) {
        if (place >= 0 && place < numbers.length) {
            numbers[place] = number;
        }
    }

    /** The VERBS (bits) that an END with this VERB serves. */
    private static int served(int verb) {
        switch (verb) {
            case GET:
                return 1 << GET | 1 << HEAD;
            case HEAD:
                return 1 << HEAD;
            case PUT:
                return 1 << PUT;
            case ALL:
                return 1 << GET | 1 << HEAD | 1 << PUT | 1 << ALL;
            default:
                return 0;
        }
    }

    private static boolean fits(int segment, int letter) {
        switch (segment / 10 * 10) {
            case 0:
                return segment == letter;
            case LOW:
                return letter < 2;
            case HIGH:
                return letter >= 2;
            default:
                return segment < REST;
        }
    }

    private static long power(long base, int times) {
        long product = 1;
        for (int i = 0; i < times; i++) {
            product *= base;
        }
        return product;
    }

    private static long partOfFraction(long above, long below, int part) {
        long divisor = greatestDivisor(above, below);
        if (divisor == 0) {
            return 0;
        }
        return part == 0 ? above / divisor : below / divisor;
    }

    private static long greatestDivisor(long a, long b) {
        long greater = a;
        long less = b;
        // Euclid's steps on two longs are fewer than a hundred.
        for (int i = 0; i < 100 && less != 0; i++) {
            long left = greater % less;
            greater = less;
            less = left;
        }
        return greater;
    }

    private static int nextSeed(int seed) {
        return seed * 1664525 + 1013904223;
    }

    private static int drawn(int seed) {
        return (seed & 0x7fffffff) / 256;
    }

    /** Numbers one behind the other, with room for so many. */
    private static final class Pile {
        private final int[] numbers;
        private int size;

        Pile(int room) {
            numbers = new int[Math.max(0, room)];
        }

        boolean isFull() {
            return size >= numbers.length;
        }

        void add(int number) {
            if (!isFull()) {
                put(numbers, size, number);
                size++;
            }
        }

        int at(int place) {
            boolean known = place >= 0 && place < size && place < numbers.length;
            return known ? numbers[place] : NONE;
        }
    }

    /** PATHS by their numbers and as piles of LETTERS. */
    private static final class Paths {
        private static final int[] FIRST_OF_SIZE = {0, 1, 5, 21, 85};

        static void read(int number, Pile letters) {
            int size = 0;
            for (int i = 1; i < FIRST_OF_SIZE.length; i++) {
                if (number >= FIRST_OF_SIZE[i]) {
                    size = i;
                }
            }
            int code = number - numberAt(FIRST_OF_SIZE, size);
            letters.size = 0;
            for (int i = size - 1; i >= 0; i--) {
                letters.add(code >> 2 * i & 3);
            }
        }

        static int numberOf(Pile letters) {
            int code = 0;
            for (int i = 0; i < letters.size; i++) {
                code = code * 4 + letters.at(i);
            }
            return numberAt(FIRST_OF_SIZE, letters.size) + code;
        }
    }

    /** An END or a MOUNT with its SEGMENTS. */
    private static final class Route {
        private final int[] segments = new int[MOST_SEGMENTS];
        private int size;
        // How many SEGMENTS stand ahead of REST: only these take a LETTER each.
        private int plain;
        private int router;
        private int verb = NONE;
        private int mounted = NONE;
        private boolean there;

        void copyFrom(Route other) {
            for (int i = 0; i < segments.length; i++) {
                segments[i] = numberAt(other.segments, i);
            }
            size = other.size;
            plain = other.plain;
            router = other.router;
            verb = other.verb;
            mounted = other.mounted;
            there = other.there;
        }

        boolean isMount() {
            return mounted >= 0;
        }

        boolean hasRest() {
            return plain < size;
        }

        boolean isFull() {
            return size >= segments.length;
        }

        void empty() {
            size = 0;
            plain = 0;
        }

        void add(int segment) {
            if (!isFull()) {
                put(segments, size, segment);
                size++;
                plain += segment == REST ? 0 : 1;
            }
        }

        int segmentAt(int place) {
            boolean known = place >= 0 && place < size && place < segments.length;
            return known ? segments[place] : NONE;
        }

        int placeOf(int parameter) {
            for (int i = 0; i < plain; i++) {
                int segment = segmentAt(i);
                if (segment >= LOW && segment % 10 == parameter) {
                    return i;
                }
            }
            return NONE;
        }

        int parameterBits() {
            int bits = 0;
            for (int i = 0; i < PARAMETERS; i++) {
                if (placeOf(i) >= 0) {
                    bits |= 1 << i;
                }
            }
            return bits;
        }

        boolean isAlike(Route other) {
            boolean alike = size == other.size && plain == other.plain;
            for (int i = 0; alike && i < plain; i++) {
                alike = Trie.edgeOf(segmentAt(i)) == Trie.edgeOf(other.segmentAt(i));
            }
            return alike;
        }

        boolean takes(Pile path) {
            boolean goesOn = hasRest() || isMount();
            boolean taken = goesOn ? path.size >= plain : path.size == plain;
            for (int i = 0; taken && i < plain; i++) {
                taken = fits(segmentAt(i), path.at(i));
            }
            return taken;
        }
    }

    /** All that an image holds: the ROUTERS' KINDS and FIGURES and the ROUTES that came. */
    private static final class Book {
        private final int[] kinds = new int[ROUTERS];
        private final int[] figures = new int[ROUTERS];
        private final Route[] routes = new Route[ROUTES];
        private final Route nobody = new Route();
        private int came;

        Book() {
            for (int i = 0; i < routes.length; i++) {
                routes[i] = new Route();
            }
        }

        void copyFrom(Book other) {
            for (int i = 0; i < ROUTERS; i++) {
                put(kinds, i, numberAt(other.kinds, i));
                put(figures, i, numberAt(other.figures, i));
            }
            for (int i = 0; i < ROUTES; i++) {
                at(i).copyFrom(other.at(i));
            }
            came = other.came;
        }

        Route at(int number) {
            if (number < 0 || number >= routes.length) {
                return nobody;
            }
            Route found = routes[number];
            return found == null ? nobody : found;
        }

        boolean isThere(int number) {
            return number >= 0 && number < came && at(number).there;
        }

        boolean isFull() {
            return came >= ROUTES;
        }

        /** The next ROUTE, to be filled before it comes. */
        Route draft() {
            return at(came);
        }

        void addDraft() {
            if (!isFull()) {
                at(came).there = true;
                came++;
            }
        }

        int thereBits() {
            int bits = 0;
            for (int i = 0; i < ROUTES; i++) {
                if (isThere(i)) {
                    bits |= 1 << i;
                }
            }
            return bits;
        }

        int mountBits() {
            int bits = 0;
            for (int i = 0; i < ROUTES; i++) {
                if (isThere(i) && at(i).isMount()) {
                    bits |= 1 << i;
                }
            }
            return bits;
        }

        int segmentsThere() {
            int sum = 0;
            for (int i = 0; i < ROUTES; i++) {
                if (isThere(i)) {
                    sum += at(i).size;
                }
            }
            return sum;
        }
    }

    /** Reads a TABLE: its form first, then STATEMENT by STATEMENT what it says. */
    private static final class Reader {
        private static final int FORM_FAULT = -1000;
        private static final int SENSE_FAULT = -2000;

        private static final int DEAD = -1;
        private static final int AT_START = 0;
        private static final int AT_ROUTER = 1;
        private static final int AT_VERB_OR_MOUNTED = 2;
        private static final int AT_SEGMENTS = 3;
        private static final int AT_SEGMENT = 4;
        private static final int AT_PARAMETER = 5;
        private static final int AT_KINDS_ROUTER = 6;
        private static final int AT_KIND = 7;
        private static final int AT_LAST_DIGIT = 8;
        private static final int AT_CLOSE = 9;

        /** How many STATEMENTS came into the book, or the FAULT (the book is spoilt then). */
        static int read(Pile text, Book book) {
            int place = placeOfFormFault(text);
            if (place >= 0) {
                return FORM_FAULT - place;
            }
            int statements = 0;
            int start = 0;
            for (int i = 0; i < text.size; i++) {
                if (text.at(i) == ';') {
                    if (!obey(text, start, i, book)) {
                        return SENSE_FAULT - start;
                    }
                    statements++;
                    start = i + 1;
                }
            }
            return statements;
        }

        private static int placeOfFormFault(Pile text) {
            int state = AT_START;
            for (int i = 0; i < text.size; i++) {
                state = stateBehind(state, text.at(i));
                if (state == DEAD) {
                    return i;
                }
            }
            boolean whole = state == AT_START && text.size > 0;
            return whole ? NONE : text.size;
        }

        private static int stateBehind(int state, int sign) {
            switch (state) {
                case AT_START:
                    return stateBehindFirst(sign);
                case AT_ROUTER:
                    return isDigit(sign) ? AT_VERB_OR_MOUNTED : DEAD;
                case AT_VERB_OR_MOUNTED:
                case AT_PARAMETER:
                    return isDigit(sign) ? AT_SEGMENTS : DEAD;
                case AT_SEGMENTS:
                    return sign == '/' ? AT_SEGMENT : stateBehindClose(sign);
                case AT_SEGMENT:
                    if (isNamed(sign)) {
                        return AT_PARAMETER;
                    }
                    return sign == '*' || sign >= 'a' && sign <= 'd' ? AT_SEGMENTS : DEAD;
                case AT_KINDS_ROUTER:
                    return isDigit(sign) ? AT_KIND : DEAD;
                case AT_KIND:
                    return isDigit(sign) ? AT_LAST_DIGIT : DEAD;
                case AT_LAST_DIGIT:
                    return isDigit(sign) ? AT_CLOSE : DEAD;
                case AT_CLOSE:
                    return stateBehindClose(sign);
                default:
                    return DEAD;
            }
        }

        private static int stateBehindFirst(int sign) {
            switch (sign) {
                case 'r':
                case 'm':
                    return AT_ROUTER;
                case 'k':
                    return AT_KINDS_ROUTER;
                case 'x':
                    return AT_LAST_DIGIT;
                default:
                    return DEAD;
            }
        }

        private static int stateBehindClose(int sign) {
            return sign == ';' ? AT_START : DEAD;
        }

        private static boolean isDigit(int sign) {
            return sign >= '0' && sign <= '9';
        }

        /** Whether a SEGMENT with this sign has a PARAMETER. */
        private static boolean isNamed(int sign) {
            return sign == '<' || sign == '>' || sign == ':';
        }

        private static boolean obey(Pile text, int start, int close, Book book) {
            int first = text.at(start + 1) - '0';
            int second = text.at(start + 2) - '0';
            switch (text.at(start)) {
                case 'r':
                    return isVerb(second) && addRoute(text, start, close, book);
                case 'm':
                    return isRouter(second) && second > first && addRoute(text, start, close, book);
                case 'k':
                    return turn(first, second, text.at(start + 3) - '0', book);
                default:
                    return drop(first, book);
            }
        }

        private static boolean addRoute(Pile text, int start, int close, Book book) {
            int router = text.at(start + 1) - '0';
            int second = text.at(start + 2) - '0';
            boolean mount = text.at(start) == 'm';
            if (!isRouter(router) || book.isFull()) {
                return false;
            }
            Route draft = book.draft();
            draft.router = router;
            draft.verb = mount ? NONE : second;
            draft.mounted = mount ? second : NONE;
            if (!readSegments(text, start + 3, close, draft) || mount && draft.hasRest()) {
                return false;
            }
            book.addDraft();
            return true;
        }

        private static boolean readSegments(Pile text, int from, int to, Route draft) {
            draft.empty();
            for (int i = from; i < to; i++) {
                // Every SEGMENT has one "/", so its sign stands right behind that.
                if (text.at(i) == '/') {
                    int sign = text.at(i + 1);
                    int parameter = isNamed(sign) ? text.at(i + 2) - '0' : NONE;
                    boolean known = parameter < PARAMETERS && draft.placeOf(parameter) < 0;
                    if (!known || draft.isFull() || draft.hasRest()) {
                        return false;
                    }
                    draft.add(segmentOf(sign, parameter));
                }
            }
            return true;
        }

        private static int segmentOf(int sign, int parameter) {
            switch (sign) {
                case '<':
                    return LOW + parameter;
                case '>':
                    return HIGH + parameter;
                case ':':
                    return ANY + parameter;
                case '*':
                    return REST;
                default:
                    return sign - 'a';
            }
        }

        private static boolean turn(int router, int kind, int figure, Book book) {
            if (!isRouter(router) || kind < 0 || kind >= KINDS) {
                return false;
            }
            put(book.kinds, router, kind);
            put(book.figures, router, figure);
            return true;
        }

        private static boolean drop(int number, Book book) {
            if (!book.isThere(number)) {
                return false;
            }
            book.at(number).there = false;
            return true;
        }
    }

    /**
     * The TRIES of all ROUTERS, grown from a book. A NODE knows which ROUTES pass through it, so that
     * the TRIES without some ROUTES can be looked at without growing them anew.
     */
    private static final class Trie {
        private static final int EDGES = 7;
        private static final int LOW_EDGE = 4;
        private static final int HIGH_EDGE = 5;
        private static final int ANY_EDGE = 6;
        private static final int MOST_NODES = 43;

        private final int[] behind = new int[MOST_NODES * EDGES];
        private final int[] owners = new int[MOST_NODES];
        private final int[] passing = new int[MOST_NODES];
        private final int[] ends = new int[MOST_NODES];
        private final int[] rests = new int[MOST_NODES];
        private final int[] mounts = new int[MOST_NODES];
        private final int[] mounted = new int[ROUTES];
        private final int[] serving = new int[VERBS];
        private final int[] kinds = new int[ROUTERS];
        private final int[] figures = new int[ROUTERS];
        private final int[] ways = new int[ROUTERS];
        private int size;

        Trie() {
            empty();
        }

        static int edgeOf(int segment) {
            switch (segment / 10 * 10) {
                case 0:
                    return segment;
                case LOW:
                    return LOW_EDGE;
                case HIGH:
                    return HIGH_EDGE;
                default:
                    return ANY_EDGE;
            }
        }

        /** Leaves the ROOTS alone: the first NODES, each with its ROUTER's number. */
        private void empty() {
            size = 0;
            for (int i = 0; i < ROUTERS; i++) {
                addNode(i);
                put(ways, i, NONE);
            }
            for (int i = 0; i < VERBS; i++) {
                put(serving, i, 0);
            }
        }

        void grow(Book book) {
            empty();
            for (int i = 0; i < ROUTERS; i++) {
                put(kinds, i, numberAt(book.kinds, i));
                put(figures, i, numberAt(book.figures, i));
            }
            for (int i = 0; i < ROUTES; i++) {
                if (book.isThere(i)) {
                    plant(i, book.at(i));
                }
            }
            findWays(book);
        }

        private int addNode(int router) {
            int node = size;
            put(owners, node, router);
            put(passing, node, 0);
            put(ends, node, 0);
            put(rests, node, 0);
            put(mounts, node, 0);
            for (int edge = 0; edge < EDGES; edge++) {
                put(behind, node * EDGES + edge, NONE);
            }
            size++;
            return node;
        }

        private void plant(int number, Route route) {
            int node = route.router;
            for (int i = 0; i < route.plain; i++) {
                int place = node * EDGES + edgeOf(route.segmentAt(i));
                if (numberAt(behind, place) < 0) {
                    put(behind, place, addNode(route.router));
                }
                node = numberAt(behind, place);
                mark(passing, node, number);
            }
            if (route.isMount()) {
                mark(mounts, node, number);
                put(mounted, number, route.mounted);
                return;
            }
            mark(route.hasRest() ? rests : ends, node, number);
            for (int verb = 0; verb < VERBS; verb++) {
                if (has(served(route.verb), verb)) {
                    mark(serving, verb, number);
                }
            }
        }

        private static void mark(int[] bits, int place, int number) {
            put(bits, place, numberAt(bits, place) | 1 << number);
        }

        /** A MOUNT is of a ROUTER of a greater number, so the lesser ROUTERS' WAYS are found ahead. */
        private void findWays(Book book) {
            for (int router = 1; router < ROUTERS; router++) {
                int least = NONE;
                for (int i = ROUTES - 1; i >= 0; i--) {
                    Route route = book.at(i);
                    boolean leads = book.isThere(i) && route.mounted == router;
                    if (leads && (route.router == 0 || numberAt(ways, route.router) >= 0)) {
                        least = i;
                    }
                }
                put(ways, router, least);
            }
        }

        int nodesOf(int router) {
            int many = 0;
            for (int i = 0; i < size; i++) {
                if (numberAt(owners, i) == router) {
                    many++;
                }
            }
            return many;
        }

        int nodeBehind(int node, int edge, int present) {
            int found = numberAt(behind, node * EDGES + edge);
            boolean there = found >= 0 && (numberAt(passing, found) & present) != 0;
            return there ? found : NONE;
        }
    }

    /** TO MATCH: what a PATH and a VERB bring, and how it came to be so. */
    private static final class Walk {
        // Four LETTERS and two MOUNTS behind the first ROOT.
        private static final int DEEPEST = 6;
        private static final char NO_STEP = ' ';
        private static final int STEPS = 7;
        // An array, since a text might be made anew at every NODE.
        private static final char[] ORDERS = {
            'E', 'L', 'C', 'A', 'R', 'M', ' ', // PLAIN
            'E', 'L', 'A', 'C', 'R', 'M', ' ', // LOOSE
            'M', 'E', 'L', 'C', 'A', 'R', 'M', // EARLY
            'R', 'E', 'L', 'A', 'C', 'R', 'M', // GREEDY
            'E', 'L', 'C', 'A', 'R', 'M', ' ', // STRICT
            'E', 'L', 'C', 'A', 'R', 'M', ' '}; // SHORT

        private final Trie trie = new Trie();
        private final Pile path = new Pile(MOST_LETTERS);
        private final int[] trail = new int[ROUTERS];
        private final int[] starts = new int[ROUTERS];
        private int verb;
        private int present;
        private int seen;
        private int mounts;
        private int taken;
        private int allBrought;
        private int allSeen;

        /** The END that comes if of all ROUTES those of the bits are THERE. */
        int bring(int number, int asked, int there) {
            Paths.read(number, path);
            verb = asked;
            present = there;
            seen = 0;
            return look(0, 0, 0, 0);
        }

        void bringAll(int asked, int there) {
            allBrought = 0;
            allSeen = 0;
            for (int i = 0; i < PATHS; i++) {
                if (bring(i, asked, there) >= 0) {
                    allBrought++;
                }
                allSeen += seen;
            }
        }

        private int look(int node, int at, int mountsSoFar, int depth) {
            if (depth > DEEPEST) {
                return NONE;
            }
            seen++;
            int router = numberAt(trie.owners, node);
            int kind = numberAt(trie.kinds, router);
            if (kind == SHORT && path.size - at > numberAt(trie.figures, router)) {
                return NONE;
            }
            boolean strict = kind == STRICT || kind == SHORT;
            for (int i = 0; i < STEPS; i++) {
                int step = stepOf(kind, i);
                int next = nextBy(step, node, at);
                int found;
                if (next >= 0) {
                    found = look(next, at + 1, mountsSoFar, depth + 1);
                    if (found < 0 && strict) {
                        return NONE;
                    }
                } else if (step == 'M') {
                    found = lookAtMounts(node, at, mountsSoFar, depth);
                } else {
                    found = endBy(step, node, at, mountsSoFar);
                }
                if (found >= 0) {
                    return found;
                }
            }
            return NONE;
        }

        private static int stepOf(int kind, int place) {
            int found = kind * STEPS + place;
            return found >= 0 && found < ORDERS.length ? ORDERS[found] : NO_STEP;
        }

        private int nextBy(int step, int node, int at) {
            if (at >= path.size) {
                return NONE;
            }
            int letter = path.at(at);
            switch (step) {
                case 'L':
                    return trie.nodeBehind(node, letter, present);
                case 'C':
                    int edge = fits(LOW, letter) ? Trie.LOW_EDGE : Trie.HIGH_EDGE;
                    return trie.nodeBehind(node, edge, present);
                case 'A':
                    return trie.nodeBehind(node, Trie.ANY_EDGE, present);
                default:
                    return NONE;
            }
        }

        private int lookAtMounts(int node, int at, int mountsSoFar, int depth) {
            int bits = numberAt(trie.mounts, node) & present;
            for (int i = 0; bits != 0 && i < ROUTES; i++) {
                if (has(bits, i)) {
                    put(trail, mountsSoFar, i);
                    put(starts, mountsSoFar + 1, at);
                    int found = look(numberAt(trie.mounted, i), at, mountsSoFar + 1, depth + 1);
                    if (found >= 0) {
                        return found;
                    }
                }
            }
            return NONE;
        }

        private int endBy(int step, int node, int at, int mountsSoFar) {
            int bits = 0;
            if (step == 'R') {
                bits = numberAt(trie.rests, node);
            } else if (step == 'E' && at == path.size) {
                bits = numberAt(trie.ends, node);
            }
            int end = leastOf(bits & present & numberAt(trie.serving, verb));
            if (end >= 0) {
                mounts = mountsSoFar;
                taken = path.size - at;
            }
            return end;
        }
    }
}
