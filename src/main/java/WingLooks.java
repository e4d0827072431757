/** Eyes on wings: what is seen of panels, the flights that look at them, the logs that prove it, the marks found. */
public final class WingLooks {
    public static final int UNKNOWN = -1, BAD = -2, STATE = -3, FULL = -4, NONE = -9;

    private static final int GREATEST_COORDINATE = 60;
    private static final int MOST_PANELS = 12;
    private static final int MOST_VIEWS = 10;
    private static final int MOST_CLOSED = 4;
    private static final int MOST_LOGS = 20;
    private static final int MOST_MARKS = 40;
    private static final int GREATEST_RANGE = 90;
    private static final int GREATEST_SLANT = 100;
    private static final int GREATEST_WIND = 9;
    private static final int GREATEST_BATTERY = 30000;
    private static final int GREATEST_HOVER = 500;
    private static final int GREATEST_SPREAD = 5;
    private static final int GREATEST_AT = 1000;
    private static final int GREATEST_LENGTH = 500;
    private static final int GREATEST_YEAR = 9;
    private static final int GREATEST_TIMES = 3;

    private final Wings wings;
    private final Places views;
    private final Lookout lookout;
    private final Air air;
    private final Craft craft;
    private final LogBook logBook;
    private final MarkBook markBook;
    /** Null until a set is first routed: its rows are by far the largest, and many objects never need them. */
    private Routes routes;

    public WingLooks() {
        wings = new Wings();
        views = new Places(MOST_VIEWS);
        lookout = new Lookout();
        air = new Air();
        craft = new Craft();
        logBook = new LogBook();
        markBook = new MarkBook();
    }

    // ---- what is looked at

    public int panel(int x1, int y1, int x2, int y2) {
        if (!isPoint(x1, y1) || !isPoint(x2, y2)) {
            return BAD;
        }
        if (x1 == x2 && y1 == y2) {
            return STATE;
        }
        if (wings.size >= MOST_PANELS) {
            return FULL;
        }
        return wings.add(x1, y1, x2, y2);
    }

    public int eye(int what, int v) {
        if (what == 0 && isWithin(v, 1, GREATEST_RANGE)) {
            int was = wings.range;
            wings.range = v;
            return was;
        }
        if (what == 1 && isWithin(v, 0, GREATEST_SLANT)) {
            int was = wings.slant;
            wings.slant = v;
            return was;
        }
        return BAD;
    }

    public int view(int x, int y) {
        if (!isPoint(x, y)) {
            return BAD;
        }
        if (views.size >= MOST_VIEWS) {
            return FULL;
        }
        return views.add(x, y);
    }

    public int seen(int x, int y, int panel) {
        if (!isPoint(x, y)) {
            return BAD;
        }
        if (!isPanel(panel)) {
            return UNKNOWN;
        }
        return asNumber(wings.isVisible(x, y, panel));
    }

    public int sees(int view) {
        if (view < 0 || view >= views.size) {
            return UNKNOWN;
        }
        return wings.visibleFrom(views.x[view], views.y[view]);
    }

    public int cover(int k) {
        if (!isWithin(k, 1, GREATEST_TIMES)) {
            return BAD;
        }
        lookout.watch(wings, views);
        return lookout.smallestCover(k, 1 << views.size);
    }

    public int covers(int set, int k) {
        if (!isViewSet(set)) {
            return UNKNOWN;
        }
        if (!isWithin(k, 1, GREATEST_TIMES)) {
            return BAD;
        }
        lookout.watch(wings, views);
        return asNumber(lookout.leastTimes(set) >= k);
    }

    public int times(int set) {
        if (!isViewSet(set)) {
            return UNKNOWN;
        }
        if (wings.size == 0) {
            return NONE;
        }
        lookout.watch(wings, views);
        return lookout.leastTimes(set);
    }

    // ---- legs, flights

    public int close(int x1, int y1, int x2, int y2) {
        if (!isPoint(x1, y1) || !isPoint(x2, y2)) {
            return BAD;
        }
        if (x2 <= x1 || y2 <= y1) {
            return STATE;
        }
        if (air.size >= MOST_CLOSED) {
            return FULL;
        }
        air.add(x1, y1, x2, y2);
        forgetRoutes();
        return air.size;
    }

    public int open() {
        if (air.size == 0) {
            return STATE;
        }
        air.size--;
        forgetRoutes();
        return air.size;
    }

    public int wind(int x, int y) {
        if (!isWithin(x, -GREATEST_WIND, GREATEST_WIND) || !isWithin(y, -GREATEST_WIND, GREATEST_WIND)) {
            return BAD;
        }
        int was = 100 * air.windX + air.windY + 909;
        air.windX = x;
        air.windY = y;
        forgetRoutes();
        return was;
    }

    public int base(int x, int y) {
        if (!isPoint(x, y)) {
            return BAD;
        }
        int was = 100 * craft.baseX + craft.baseY;
        craft.baseX = x;
        craft.baseY = y;
        forgetRoutes();
        return was;
    }

    public int store(int what, int v) {
        if (what == 0 && isWithin(v, 1, GREATEST_BATTERY)) {
            int was = craft.battery;
            craft.battery = v;
            forgetRoutes();
            return was;
        }
        if (what == 1 && isWithin(v, 0, GREATEST_HOVER)) {
            int was = craft.hover;
            craft.hover = v;
            forgetRoutes();
            return was;
        }
        return BAD;
    }

    public int leg(int x1, int y1, int x2, int y2) {
        if (!isPoint(x1, y1) || !isPoint(x2, y2)) {
            return BAD;
        }
        if (air.isShut(x1, y1, x2, y2)) {
            return NONE;
        }
        return air.cost(x2 - x1, y2 - y1);
    }

    public int round(int set) {
        if (!isViewSet(set)) {
            return UNKNOWN;
        }
        return routesFor(set).roundCost(set);
    }

    public int stop(int set, int place) {
        if (!isViewSet(set)) {
            return UNKNOWN;
        }
        return routesFor(set).viewAt(set, place);
    }

    public int flights(int set) {
        if (!isViewSet(set)) {
            return UNKNOWN;
        }
        return routesFor(set).fewestTrips(set);
    }

    public int energy(int set) {
        if (!isViewSet(set)) {
            return UNKNOWN;
        }
        return routesFor(set).cheapestTrips(set);
    }

    // ---- logs

    public int log(int x, int y, int e) {
        if (!isPoint(x, y) || !isWithin(e, 0, GREATEST_SPREAD)) {
            return BAD;
        }
        if (logBook.places.size >= MOST_LOGS) {
            return FULL;
        }
        return logBook.add(x, y, e);
    }

    public int proves(int log, int panel) {
        if (log < 0 || log >= logBook.places.size || !isPanel(panel)) {
            return UNKNOWN;
        }
        return asNumber(logBook.isProof(log, wings, panel));
    }

    public int proved(int panel) {
        if (!isPanel(panel)) {
            return UNKNOWN;
        }
        return logBook.proofs(wings, panel, MOST_LOGS);
    }

    public int missing(int i, int k) {
        if (!isWithin(k, 1, GREATEST_TIMES)) {
            return BAD;
        }
        int before = 0;
        for (int panel = 0; panel < wings.size; panel++) {
            if (logBook.proofs(wings, panel, k) < k) {
                if (before == i) {
                    return panel;
                }
                before++;
            }
        }
        return NONE;
    }

    // ---- marks

    public int mark(int panel, int at, int length, int year) {
        if (!isPanel(panel)) {
            return UNKNOWN;
        }
        if (!isWithin(at, 0, GREATEST_AT) || !isWithin(length, 0, GREATEST_LENGTH) || !isYear(year)) {
            return BAD;
        }
        if (markBook.size >= MOST_MARKS) {
            return FULL;
        }
        return markBook.add(panel, at, length, year);
    }

    public int wipe(int mark) {
        if (mark < 0 || mark >= markBook.size) {
            return UNKNOWN;
        }
        if (markBook.wiped[mark]) {
            return STATE;
        }
        markBook.wiped[mark] = true;
        return 1;
    }

    public int marks(int panel, int year, boolean lengths) {
        if (!isPanel(panel)) {
            return UNKNOWN;
        }
        if (!isYear(year)) {
            return BAD;
        }
        return markBook.sum(panel, year, lengths);
    }

    public int match(int panel, int one, int two, int tolerance, boolean drift) {
        if (!isPanel(panel)) {
            return UNKNOWN;
        }
        if (!isYear(one) || !isYear(two) || !isWithin(tolerance, 0, GREATEST_AT)) {
            return BAD;
        }
        if (one == two) {
            return STATE;
        }
        markBook.pairUp(panel, one, two, tolerance);
        return drift ? markBook.pairedDrift : markBook.pairs;
    }

    public int count(int what) {
        switch (what) {
            case 0:
                return wings.size;
            case 1:
                return views.size;
            case 2:
                return air.size;
            case 3:
                return logBook.places.size;
            case 4:
                return markBook.present();
            default:
                return BAD;
        }
    }

    // ---- what the calls share

    private static boolean isWithin(int v, int least, int greatest) {
        return v >= least && v <= greatest;
    }

    private static boolean isPoint(int x, int y) {
        return isWithin(x, 0, GREATEST_COORDINATE) && isWithin(y, 0, GREATEST_COORDINATE);
    }

    private static boolean isYear(int year) {
        return isWithin(year, 0, GREATEST_YEAR);
    }

    private static int asNumber(boolean holds) {
        return holds ? 1 : 0;
    }

    private static boolean has(int set, int member) {
        return (set >> member & 1) != 0;
    }

    /** Twice the area of the triangle a, b, c: above 0, if c lies to the left of the line from a to b. */
    private static int turn(int ax, int ay, int bx, int by, int cx, int cy) {
        return (bx - ax) * (cy - ay) - (by - ay) * (cx - ax);
    }

    private boolean isPanel(int panel) {
        return panel >= 0 && panel < wings.size;
    }

    private boolean isViewSet(int set) {
        return (set & -(1 << views.size)) == 0;
    }

    private Routes routesFor(int set) {
        if (routes == null) {
            routes = new Routes(views, air, craft);
        }
        routes.learn(set);
        return routes;
    }

    private void forgetRoutes() {
        if (routes != null) {
            routes.forget();
        }
    }

    /** A row of POINTS that only grows; whoever adds has looked whether it is full. */
    private static final class Places {
        final int[] x;
        final int[] y;
        int size;

        Places(int most) {
            x = new int[most];
            y = new int[most];
        }

        int add(int newX, int newY) {
            x[size] = newX;
            y[size] = newY;
            size++;
            return size - 1;
        }
    }

    /** PANELS and THE EYE. */
    private static final class Wings {
        private final int[] startX = new int[MOST_PANELS];
        private final int[] startY = new int[MOST_PANELS];
        private final int[] endX = new int[MOST_PANELS];
        private final int[] endY = new int[MOST_PANELS];
        int size;
        int range = 30;
        int slant = 25;

        int add(int x1, int y1, int x2, int y2) {
            startX[size] = x1;
            startY[size] = y1;
            endX[size] = x2;
            endY[size] = y2;
            size++;
            return size - 1;
        }

        int visibleFrom(int x, int y) {
            int set = 0;
            for (int panel = 0; panel < size; panel++) {
                if (isVisible(x, y, panel)) {
                    set |= 1 << panel;
                }
            }
            return set;
        }

        /** All lengths are doubled here, so that the MIDDLE of a PANEL is whole too. */
        boolean isVisible(int x, int y, int panel) {
            int alongX = endX[panel] - startX[panel];
            int alongY = endY[panel] - startY[panel];
            int middleX = startX[panel] + endX[panel];
            int middleY = startY[panel] + endY[panel];
            int wayX = middleX - 2 * x;
            int wayY = middleY - 2 * y;
            int side = alongY * wayX - alongX * wayY;
            if (side <= 0) {
                return false;
            }
            int waySquared = wayX * wayX + wayY * wayY;
            if (waySquared > 4 * range * range) {
                return false;
            }
            long alongSquared = alongX * alongX + alongY * alongY;
            if (100L * side * side < slant * alongSquared * waySquared) {
                return false;
            }
            for (int other = 0; other < size; other++) {
                if (other != panel && isTouched(other, 2 * x, 2 * y, middleX, middleY)) {
                    return false;
                }
            }
            return true;
        }

        /** Where all four turns are 0, the boxes alone tell: on one line they meet just where the boxes do. */
        private boolean isTouched(int other, int ax, int ay, int bx, int by) {
            int cx = 2 * startX[other];
            int cy = 2 * startY[other];
            int dx = 2 * endX[other];
            int dy = 2 * endY[other];
            return doOverlap(ax, bx, cx, dx) && doOverlap(ay, by, cy, dy)
                && areApart(turn(ax, ay, bx, by, cx, cy), turn(ax, ay, bx, by, dx, dy))
                && areApart(turn(cx, cy, dx, dy, ax, ay), turn(cx, cy, dx, dy, bx, by));
        }

        private static boolean doOverlap(int a, int b, int c, int d) {
            return Math.max(a, b) >= Math.min(c, d) && Math.max(c, d) >= Math.min(a, b);
        }

        private static boolean areApart(int oneTurn, int otherTurn) {
            return Math.min(oneTurn, otherTurn) <= 0 && Math.max(oneTurn, otherTurn) >= 0;
        }
    }

    /** VIEWS before PANELS: which set of them COVERS how often, as found at the last look. */
    private static final class Lookout {
        /** For each PANEL the VIEWS that it is SEEN from, as bits. */
        private final int[] watchers = new int[MOST_PANELS];
        private int panels;

        void watch(Wings wings, Places views) {
            panels = wings.size;
            for (int panel = 0; panel < panels; panel++) {
                int set = 0;
                for (int view = 0; view < views.size; view++) {
                    if (wings.isVisible(views.x[view], views.y[view], panel)) {
                        set |= 1 << view;
                    }
                }
                watchers[panel] = set;
            }
        }

        /** Without PANELS more than any k, since each set COVERS then. */
        int leastTimes(int set) {
            int least = MOST_VIEWS;
            for (int panel = 0; panel < panels; panel++) {
                least = Math.min(least, Integer.bitCount(watchers[panel] & set));
            }
            return least;
        }

        int smallestCover(int k, int sets) {
            int best = NONE;
            int fewest = MOST_VIEWS + 1;
            for (int set = 0; set < sets; set++) {
                int many = Integer.bitCount(set);
                if (many < fewest && leastTimes(set) >= k) {
                    best = set;
                    fewest = many;
                }
            }
            return best;
        }
    }

    /** CLOSED places and the WIND. */
    private static final class Air {
        /** No way is longer than from corner to corner, which takes 849. */
        private static final int HIGHEST_BIT_OF_A_WAY = 512;

        private final int[] left = new int[MOST_CLOSED];
        private final int[] bottom = new int[MOST_CLOSED];
        private final int[] right = new int[MOST_CLOSED];
        private final int[] top = new int[MOST_CLOSED];
        int size;
        int windX;
        int windY;

        void add(int x1, int y1, int x2, int y2) {
            left[size] = x1;
            bottom[size] = y1;
            right[size] = x2;
            top[size] = y2;
            size++;
        }

        boolean isShut(int x1, int y1, int x2, int y2) {
            for (int place = 0; place < size; place++) {
                if (goesInto(place, x1, y1, x2, y2)) {
                    return true;
                }
            }
            return false;
        }

        private boolean goesInto(int place, int x1, int y1, int x2, int y2) {
            if (Math.max(x1, x2) <= left[place] || Math.min(x1, x2) >= right[place]
                || Math.max(y1, y2) <= bottom[place] || Math.min(y1, y2) >= top[place]) {
                return false;
            }
            if (x1 == x2 && y1 == y2) {
                return true;
            }
            // No edge of the place parts the two, so only the LEG's own line still can, with all corners on one side.
            int a = turn(x1, y1, x2, y2, left[place], bottom[place]);
            int b = turn(x1, y1, x2, y2, right[place], bottom[place]);
            int c = turn(x1, y1, x2, y2, right[place], top[place]);
            int d = turn(x1, y1, x2, y2, left[place], top[place]);
            return Math.min(Math.min(a, b), Math.min(c, d)) < 0 && Math.max(Math.max(a, b), Math.max(c, d)) > 0;
        }

        int cost(int dx, int dy) {
            int way = rootUp(100 * (dx * dx + dy * dy));
            int along = windX * dx + windY * dy;
            return along < 0 ? way + -along / 10 : way;
        }

        /** The least whole number whose square is the given one at least. */
        private static int rootUp(int square) {
            int below = 0;
            for (int bit = HIGHEST_BIT_OF_A_WAY; bit > 0; bit /= 2) {
                int more = below + bit;
                if (more * more < square) {
                    below = more;
                }
            }
            return square > 0 ? below + 1 : 0;
        }
    }

    /** What flies. */
    private static final class Craft {
        int baseX;
        int baseY;
        int battery = 1000;
        int hover;
    }

    /** The cheapest orders of all subsets of one set, and the best FLIGHTS made of them. */
    private static final class Routes {
        private static final int SETS = 1 << MOST_VIEWS;
        private static final int BASE = MOST_VIEWS;
        private static final int STOPS = MOST_VIEWS + 1;
        /** What a SHUT LEG takes: above all ENERGY there can be, and eleven of it still are an int. */
        private static final int FAR = 1000000;
        /** Above the ENERGY of all FLIGHTS together, so that one sum orders by FLIGHTS first, then by ENERGY. */
        private static final int TRIP = 1000000;
        private static final int UNFLOWN = 100 * TRIP;

        private final Places views;
        private final Air air;
        private final Craft craft;
        private final int[] legCosts = new int[STOPS * STOPS];
        /** By set and VIEW: from this VIEW through all others of the set to THE BASE, HOVER at each of them. */
        private final int[] tails = new int[SETS * MOST_VIEWS];
        private final int[] rounds = new int[SETS];
        private final int[] splits = new int[SETS];
        /** The rows hold for the subsets of these; the empty set needs no rows. */
        private int routedSet;
        private int splitSet;

        Routes(Places views, Air air, Craft craft) {
            this.views = views;
            this.air = air;
            this.craft = craft;
        }

        /** Must follow whatever changes a LEG's ENERGY, HOVER or THE BATTERY; a new VIEW changes no old set. */
        void forget() {
            routedSet = 0;
            splitSet = 0;
        }

        void learn(int set) {
            if ((set & ~routedSet) == 0) {
                return;
            }
            measureLegs(set | 1 << BASE);
            for (int part = 1; part <= set; part++) {
                if ((part & ~set) == 0) {
                    fillTails(part);
                    rounds[part] = costFrom(BASE, part);
                }
            }
            routedSet = set;
        }

        private void measureLegs(int stops) {
            for (int from = 0; from < STOPS; from++) {
                for (int to = 0; to < STOPS; to++) {
                    if (from != to && has(stops, from) && has(stops, to)) {
                        int x = xOf(from);
                        int y = yOf(from);
                        boolean shut = air.isShut(x, y, xOf(to), yOf(to));
                        legCosts[from * STOPS + to] = shut ? FAR : air.cost(xOf(to) - x, yOf(to) - y);
                    }
                }
            }
        }

        private int xOf(int place) {
            return place == BASE ? craft.baseX : views.x[place];
        }

        private int yOf(int place) {
            return place == BASE ? craft.baseY : views.y[place];
        }

        private void fillTails(int set) {
            for (int view = 0; view < MOST_VIEWS; view++) {
                if (has(set, view)) {
                    tails[set * MOST_VIEWS + view] = craft.hover + costFrom(view, set & ~(1 << view));
                }
            }
        }

        /** The least way from a stop through all VIEWS of a set, which it is not one of, and back. */
        private int costFrom(int stop, int set) {
            if (set == 0) {
                return legCosts[stop * STOPS + BASE];
            }
            int least = FAR;
            for (int next = 0; next < MOST_VIEWS; next++) {
                if (has(set, next)) {
                    least = Math.min(least, costBy(stop, set, next));
                }
            }
            return least;
        }

        private int costBy(int stop, int set, int next) {
            return legCosts[stop * STOPS + next] + tails[set * MOST_VIEWS + next];
        }

        int roundCost(int set) {
            return hasRound(set) ? rounds[set] : NONE;
        }

        private boolean hasRound(int set) {
            return set != 0 && rounds[set] < FAR;
        }

        int viewAt(int set, int place) {
            if (!hasRound(set) || place < 0 || place >= Integer.bitCount(set)) {
                return NONE;
            }
            int stop = BASE;
            int left = set;
            for (int step = 0; step <= place; step++) {
                stop = nextView(stop, left);
                left &= ~(1 << stop);
            }
            return stop;
        }

        /** The first of like cheap ones: so the whole ROUND is the first by VIEWS. There must be one below FAR. */
        private int nextView(int stop, int left) {
            int best = 0;
            int least = FAR;
            for (int next = 0; next < MOST_VIEWS; next++) {
                if (has(left, next) && costBy(stop, left, next) < least) {
                    best = next;
                    least = costBy(stop, left, next);
                }
            }
            return best;
        }

        int fewestTrips(int set) {
            splitUp(set);
            return splits[set] < UNFLOWN ? splits[set] / TRIP : NONE;
        }

        int cheapestTrips(int set) {
            splitUp(set);
            return splits[set] < UNFLOWN ? splits[set] % TRIP : NONE;
        }

        private void splitUp(int set) {
            if ((set & ~splitSet) == 0) {
                return;
            }
            for (int part = 1; part <= set; part++) {
                if ((part & ~set) == 0) {
                    splits[part] = bestSplit(part);
                }
            }
            splitSet = set;
        }

        /** Only the FLIGHT that has the lowest VIEW is chosen here: the FLIGHTS of the others are known. */
        private int bestSplit(int set) {
            int lowest = set & -set;
            int others = set & ~lowest;
            int choices = 1 << Integer.bitCount(others);
            int best = UNFLOWN;
            int more = 0;
            for (int choice = 0; choice < choices; choice++) {
                int cost = rounds[lowest | more];
                if (cost <= craft.battery) {
                    best = Math.min(best, TRIP + cost + splits[others & ~more]);
                }
                // Goes to the next subset of the others, as a count in their bits alone does.
                more = (more - others) & others;
            }
            return best;
        }
    }

    /** LOGS and what they PROVE. */
    private static final class LogBook {
        final Places places = new Places(MOST_LOGS);
        private final int[] spread = new int[MOST_LOGS];

        int add(int x, int y, int e) {
            spread[places.size] = e;
            return places.add(x, y);
        }

        boolean isProof(int log, Wings wings, int panel) {
            int x = places.x[log];
            int y = places.y[log];
            int e = spread[log];
            return wings.isVisible(x - e, y - e, panel) && wings.isVisible(x + e, y - e, panel)
                && wings.isVisible(x - e, y + e, panel) && wings.isVisible(x + e, y + e, panel);
        }

        /** Counts no further than enough. */
        int proofs(Wings wings, int panel, int enough) {
            int found = 0;
            for (int log = 0; log < places.size && found < enough; log++) {
                if (isProof(log, wings, panel)) {
                    found++;
                }
            }
            return found;
        }
    }

    /** MARKS, also wiped ones, which keep their numbers, and MATCHES of them. */
    private static final class MarkBook {
        /** What a pair counts before its DRIFT is taken off: above any sum of DRIFTS, so that pairs come first. */
        private static final int PAIR = 100000;

        private final int[] panelOf = new int[MOST_MARKS];
        private final int[] atOf = new int[MOST_MARKS];
        private final int[] lengthOf = new int[MOST_MARKS];
        private final int[] yearOf = new int[MOST_MARKS];
        final boolean[] wiped = new boolean[MOST_MARKS];
        int size;
        private final int[] placesOne = new int[MOST_MARKS];
        private final int[] placesTwo = new int[MOST_MARKS];
        private final int[] worth = new int[MOST_MARKS + 1];
        /** What pairUp found. */
        int pairs;
        int pairedDrift;

        int add(int panel, int at, int length, int year) {
            panelOf[size] = panel;
            atOf[size] = at;
            lengthOf[size] = length;
            yearOf[size] = year;
            size++;
            return size - 1;
        }

        int present() {
            int there = 0;
            for (int mark = 0; mark < size; mark++) {
                if (!wiped[mark]) {
                    there++;
                }
            }
            return there;
        }

        private boolean isOf(int mark, int panel, int year) {
            return !wiped[mark] && panelOf[mark] == panel && yearOf[mark] == year;
        }

        int sum(int panel, int year, boolean lengths) {
            int all = 0;
            for (int mark = 0; mark < size; mark++) {
                if (isOf(mark, panel, year)) {
                    all += lengths ? lengthOf[mark] : 1;
                }
            }
            return all;
        }

        /** In the order of places: pairs that cross can be swapped into pairs that don't, none of them the worse. */
        void pairUp(int panel, int one, int two, int tolerance) {
            int many = sortPlaces(panel, one, placesOne);
            int others = sortPlaces(panel, two, placesTwo);
            for (int j = 0; j <= others; j++) {
                worth[j] = 0;
            }
            for (int i = 0; i < many; i++) {
                addPlace(placesOne[i], others, tolerance);
            }
            pairs = (worth[others] + PAIR - 1) / PAIR;
            pairedDrift = pairs * PAIR - worth[others];
        }

        private int sortPlaces(int panel, int year, int[] places) {
            int many = 0;
            for (int mark = 0; mark < size; mark++) {
                if (isOf(mark, panel, year)) {
                    int to = many;
                    while (to > 0 && places[to - 1] > atOf[mark]) {
                        places[to] = places[to - 1];
                        to--;
                    }
                    places[to] = atOf[mark];
                    many++;
                }
            }
            return many;
        }

        /** worth[j] is the best of all places so far against the first j others; before is worth[j - 1] of old. */
        private void addPlace(int at, int others, int tolerance) {
            int before = worth[0];
            for (int j = 1; j <= others; j++) {
                int old = worth[j];
                int apart = Math.abs(at - placesTwo[j - 1]);
                worth[j] = Math.max(old, worth[j - 1]);
                if (apart <= tolerance) {
                    worth[j] = Math.max(worth[j], before + PAIR - apart);
                }
                before = old;
            }
        }
    }
}
