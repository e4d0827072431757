import java.util.ArrayList;
import java.util.Arrays;
import java.util.List;
import java.util.Random;

/** Random runs of calls (always the same ones), each answer compared with that of a plain, slow model. */
public final class ReferenceTests {
    private static final int UNKNOWN = -1, BAD = -2, STATE = -3, FULL = -4, NONE = -9;
    private static final int RUNS = 1500;
    private static final int CALLS = 200;
    private static final int LARGE_RUNS = 10;
    private static int wrong = 0;
    private static int checked = 0;

    public static void main(String[] args) {
        for (int run = 0; run < RUNS && wrong < 20; run++) {
            new Run(run).go();
        }
        for (int run = 0; run < LARGE_RUNS; run++) {
            new Run(RUNS + run).flyMany();
        }
        System.out.println("ReferenceTests: " + checked + " answers compared, " + wrong + " not as due");
        if (wrong != 0) {
            System.exit(1);
        }
    }

    private static void due(int run, String what, int want, int got) {
        checked++;
        if (want != got) {
            wrong++;
            System.out.println("run " + run + ": " + what + " answered " + got + ", due is " + want);
        }
    }

    /** One object and its model, called alike. */
    private static final class Run {
        final int number;
        final Random random;
        final WingLooks w = new WingLooks();
        final Model m = new Model();
        /** POINTS of a run lie within a window: small ones make them touch and line up often. */
        final int window;
        final int offset;
        /** The runs differ in what they are rich in. */
        final int kind;
        /** Large sets take the model long, so only some runs have them. */
        final int mostInSet;
        /** Where PANELS are many, few are SEEN; so most runs stay below their limit. */
        final int mostPanels;

        Run(int number) {
            this.number = number;
            random = new Random(number * 7919L + 11);
            int[] windows = {4, 7, 12, 25, 60};
            window = windows[random.nextInt(windows.length)];
            offset = random.nextInt(61 - window);
            kind = number % 4;
            mostInSet = number % 50 == 0 ? 7 : 5;
            mostPanels = number % 3 == 0 ? 13 : 1 + random.nextInt(5);
        }

        void go() {
            for (int call = 0; call < CALLS; call++) {
                one();
            }
        }

        /** The largest sets that the model can still go through. */
        void flyMany() {
            int wind = random.nextInt(19) - 9;
            m.wind(wind, -wind / 2);
            w.wind(wind, -wind / 2);
            for (int i = 0; i < 8; i++) {
                int x = coordinate();
                int y = coordinate();
                due(number, "view", m.view(x, y), w.view(x, y));
                if (i % 4 == 0) {
                    int middle = offset + window / 2;
                    due(number, "base", m.base(middle, middle + i / 4), w.base(middle, middle + i / 4));
                    due(number, "close", m.close(x, y, x + 2, y + 1), w.close(x, y, x + 2, y + 1));
                }
            }
            int all = (1 << m.views.size()) - 1;
            routed(all);
            int whole = m.round(all);
            for (int percent = 100; percent >= 40 && whole > 0; percent -= 12) {
                int battery = Math.max(1, whole * percent / 100);
                due(number, "store", m.store(0, battery), w.store(0, battery));
                flown(all);
            }
        }

        int coordinate() {
            if (random.nextInt(60) == 0) {
                return random.nextInt(70) - 5;
            }
            return offset + random.nextInt(window + 1);
        }

        int below(int most) {
            if (random.nextInt(40) == 0) {
                return random.nextInt(4) == 0 ? random.nextInt() : random.nextInt(most + 4) - 2;
            }
            return random.nextInt(most);
        }

        int number(List<?> of) {
            return below(of.size() + (random.nextInt(12) == 0 ? 1 : 0) + (of.isEmpty() ? 1 : 0));
        }

        int set() {
            int views = m.views.size();
            if (random.nextInt(25) == 0) {
                return random.nextInt(5) == 0 ? random.nextInt() : random.nextInt(2 << views);
            }
            int set = random.nextInt(1 << views);
            while (Integer.bitCount(set) > mostInSet) {
                set &= set - 1;
            }
            return set;
        }

        void one() {
            int group = random.nextInt(5) == 0 ? random.nextInt(4) : kind;
            switch (group) {
                case 0:
                    look();
                    break;
                case 1:
                    fly();
                    break;
                case 2:
                    prove();
                    break;
                default:
                    compareYears();
                    break;
            }
        }

        void look() {
            int a = coordinate();
            int b = coordinate();
            int c = coordinate();
            int d = coordinate();
            int k = below(3) + 1;
            switch (random.nextInt(9)) {
                case 0:
                    if (m.panels.size() < mostPanels) {
                        due(number, "panel", m.panel(a, b, c, d), w.panel(a, b, c, d));
                    }
                    break;
                case 1:
                    int what = below(2);
                    int v = what == 0 ? below(random.nextInt(4) != 0 ? 90 : 12) + 1
                        : below(random.nextInt(4) == 0 ? 101 : 20);
                    due(number, "eye", m.eye(what, v), w.eye(what, v));
                    break;
                case 2:
                    due(number, "view", m.view(a, b), w.view(a, b));
                    break;
                case 3:
                case 4:
                    int panel = number(m.panels);
                    due(number, "seen", m.seen(a, b, panel), w.seen(a, b, panel));
                    break;
                case 5:
                    int view = number(m.views);
                    due(number, "sees", m.sees(view), w.sees(view));
                    break;
                case 6:
                    due(number, "cover", m.cover(k), w.cover(k));
                    break;
                case 7:
                    int set = set();
                    due(number, "covers", m.covers(set, k), w.covers(set, k));
                    break;
                default:
                    int sets = set();
                    due(number, "times", m.times(sets), w.times(sets));
                    break;
            }
        }

        void fly() {
            int a = coordinate();
            int b = coordinate();
            int c = coordinate();
            int d = coordinate();
            switch (random.nextInt(13)) {
                case 0:
                    if (random.nextInt(6) != 0) {
                        int right = a + below(9);
                        int top = b + below(9);
                        due(number, "close", m.close(a, b, right, top), w.close(a, b, right, top));
                    } else {
                        due(number, "close", m.close(a, b, c, d), w.close(a, b, c, d));
                    }
                    break;
                case 1:
                    due(number, "open", m.open(), w.open());
                    break;
                case 2:
                    int x = below(19) - 9;
                    int y = below(19) - 9;
                    due(number, "wind", m.wind(x, y), w.wind(x, y));
                    break;
                case 3:
                    due(number, "base", m.base(a, b), w.base(a, b));
                    break;
                case 4:
                    int what = below(2);
                    int v = what == 0 ? below(window * 60) + 1 : below(random.nextBoolean() ? 501 : 20);
                    due(number, "store", m.store(what, v), w.store(what, v));
                    break;
                case 5:
                case 6:
                    due(number, "leg", m.leg(a, b, c, d), w.leg(a, b, c, d));
                    break;
                case 7:
                case 8:
                    due(number, "view", m.view(a, b), w.view(a, b));
                    break;
                case 9:
                case 10:
                    routed(set());
                    break;
                default:
                    flown(set());
                    break;
            }
        }

        void routed(int set) {
            due(number, "round", m.round(set), w.round(set));
            int places = Integer.bitCount(set);
            for (int place = -1; place <= Math.min(places, 8); place++) {
                due(number, "stop", m.stop(set, place), w.stop(set, place));
            }
        }

        void flown(int set) {
            due(number, "flights", m.flights(set), w.flights(set));
            due(number, "energy", m.energy(set), w.energy(set));
        }

        void prove() {
            int a = coordinate();
            int b = coordinate();
            int c = coordinate();
            int d = coordinate();
            int log = number(m.logs);
            int panel = number(m.panels);
            switch (random.nextInt(6)) {
                case 0:
                    if (m.panels.size() < mostPanels) {
                        due(number, "panel", m.panel(a, b, c, d), w.panel(a, b, c, d));
                    }
                    break;
                case 1:
                    int e = below(6);
                    due(number, "log", m.log(a, b, e), w.log(a, b, e));
                    break;
                case 2:
                    due(number, "proves", m.proves(log, panel), w.proves(log, panel));
                    break;
                case 3:
                    due(number, "proved", m.proved(panel), w.proved(panel));
                    break;
                case 4:
                    int slant = below(random.nextInt(4) == 0 ? 101 : 20);
                    due(number, "eye", m.eye(1, slant), w.eye(1, slant));
                    break;
                default:
                    int i = below(6);
                    int k = below(3) + 1;
                    due(number, "missing", m.missing(i, k), w.missing(i, k));
                    break;
            }
        }

        void compareYears() {
            int panel = random.nextInt(10) == 0 ? number(m.panels) : 0;
            int years = number % 3 == 0 ? 2 : 4;
            int one = below(years);
            int two = below(years);
            boolean flag = random.nextBoolean();
            switch (random.nextInt(6)) {
                case 0:
                case 1:
                    int at = below(number % 5 == 0 ? 1001 : 40);
                    int length = below(501);
                    due(number, "mark", m.mark(panel, at, length, one), w.mark(panel, at, length, one));
                    break;
                case 2:
                    int mark = random.nextInt(3) == 0 ? number(m.marks) : -1;
                    due(number, "wipe", m.wipe(mark), w.wipe(mark));
                    break;
                case 3:
                    due(number, "marks", m.marks(panel, one, flag), w.marks(panel, one, flag));
                    break;
                case 4:
                    int tolerance = below(number % 5 == 0 ? 1001 : 15);
                    due(number, "match", m.match(panel, one, two, tolerance, flag),
                        w.match(panel, one, two, tolerance, flag));
                    break;
                default:
                    int what = below(5);
                    if (m.panels.isEmpty()) {
                        due(number, "panel", m.panel(1, 2, 3, 4), w.panel(1, 2, 3, 4));
                    }
                    due(number, "count", m.count(what), w.count(what));
                    break;
            }
        }
    }

    /** The document told again, in the slowest way. */
    private static final class Model {
        final List<int[]> panels = new ArrayList<>();
        final List<int[]> views = new ArrayList<>();
        final List<int[]> closed = new ArrayList<>();
        final List<int[]> logs = new ArrayList<>();
        final List<int[]> marks = new ArrayList<>();
        int range = 30;
        int slant = 25;
        int windX = 0;
        int windY = 0;
        int[] base = {0, 0};
        int battery = 1000;
        int hover = 0;
        /** The best row of VIEWS that the last search found, and what it takes. */
        private int[] bestRow;
        private int bestCost;

        static boolean point(int x, int y) {
            return x >= 0 && x <= 60 && y >= 0 && y <= 60;
        }

        int panel(int x1, int y1, int x2, int y2) {
            if (!point(x1, y1) || !point(x2, y2)) {
                return BAD;
            }
            if (x1 == x2 && y1 == y2) {
                return STATE;
            }
            if (panels.size() == 12) {
                return FULL;
            }
            panels.add(new int[] {x1, y1, x2, y2});
            return panels.size() - 1;
        }

        int eye(int what, int v) {
            int was = what == 0 ? range : slant;
            if (what == 0 && v >= 1 && v <= 90) {
                range = v;
            } else if (what == 1 && v >= 0 && v <= 100) {
                slant = v;
            } else {
                return BAD;
            }
            return was;
        }

        int view(int x, int y) {
            if (!point(x, y)) {
                return BAD;
            }
            if (views.size() == 10) {
                return FULL;
            }
            views.add(new int[] {x, y});
            return views.size() - 1;
        }

        boolean noPanel(int panel) {
            return panel < 0 || panel >= panels.size();
        }

        boolean noSet(int set) {
            for (int bit = 0; bit < 32; bit++) {
                if ((set & 1 << bit) != 0 && bit >= views.size()) {
                    return true;
                }
            }
            return false;
        }

        int seen(int x, int y, int panel) {
            if (!point(x, y)) {
                return BAD;
            }
            return noPanel(panel) ? UNKNOWN : looks(x, y, panel) ? 1 : 0;
        }

        boolean looks(int x, int y, int panel) {
            int[] p = panels.get(panel);
            long side = (long) (p[2] - p[0]) * (y - p[1]) - (long) (p[3] - p[1]) * (x - p[0]);
            if (side <= 0) {
                return false;
            }
            double mx = (p[0] + p[2]) / 2.0;
            double my = (p[1] + p[3]) / 2.0;
            // Halves and their squares are exact in a double.
            double wx = mx - x;
            double wy = my - y;
            if (wx * wx + wy * wy > range * range) {
                return false;
            }
            double dot = wx * (p[2] - p[0]) + wy * (p[3] - p[1]);
            double lengths = (wx * wx + wy * wy)
                * ((p[2] - p[0]) * (p[2] - p[0]) + (p[3] - p[1]) * (p[3] - p[1]));
            // The sine squared is 1 less the cosine squared.
            if (100 * (lengths - dot * dot) < slant * lengths) {
                return false;
            }
            for (int other = 0; other < panels.size(); other++) {
                int[] o = panels.get(other);
                if (other != panel && meet(new long[] {2 * x, 2 * y}, new long[] {p[0] + p[2], p[1] + p[3]},
                    new long[] {2 * o[0], 2 * o[1]}, new long[] {2 * o[2], 2 * o[3]})) {
                    return false;
                }
            }
            return true;
        }

        /** By solving a + t (b - a) = c + s (d - c) for t and s. */
        static boolean meet(long[] a, long[] b, long[] c, long[] d) {
            long ux = b[0] - a[0];
            long uy = b[1] - a[1];
            long vx = d[0] - c[0];
            long vy = d[1] - c[1];
            long det = uy * vx - ux * vy;
            long rx = c[0] - a[0];
            long ry = c[1] - a[1];
            if (det == 0) {
                if (ux * ry - uy * rx != 0) {
                    return false;
                }
                long from = ux * rx + uy * ry;
                long to = ux * (d[0] - a[0]) + uy * (d[1] - a[1]);
                long all = ux * ux + uy * uy;
                return Math.max(from, to) >= 0 && Math.min(from, to) <= all;
            }
            long t = ry * vx - rx * vy;
            long s = ux * ry - uy * rx;
            if (det < 0) {
                det = -det;
                t = -t;
                s = -s;
            }
            return t >= 0 && t <= det && s >= 0 && s <= det;
        }

        int sees(int view) {
            if (view < 0 || view >= views.size()) {
                return UNKNOWN;
            }
            int set = 0;
            for (int panel = 0; panel < panels.size(); panel++) {
                if (looks(views.get(view)[0], views.get(view)[1], panel)) {
                    set += 1 << panel;
                }
            }
            return set;
        }

        int cover(int k) {
            if (k < 1 || k > 3) {
                return BAD;
            }
            int[] from = new int[views.size()];
            for (int view = 0; view < from.length; view++) {
                from[view] = sees(view);
            }
            for (int many = 0; many <= from.length; many++) {
                for (int set = 0; set < 1 << from.length; set++) {
                    if (Integer.bitCount(set) == many && least(set, from) >= k) {
                        return set;
                    }
                }
            }
            return NONE;
        }

        int least(int set, int[] from) {
            int least = 1000;
            for (int panel = 0; panel < panels.size(); panel++) {
                int times = 0;
                for (int view = 0; view < from.length; view++) {
                    times += (set >> view & 1) * (from[view] >> panel & 1);
                }
                least = Math.min(least, times);
            }
            return least;
        }

        int leastNow(int set) {
            int[] from = new int[views.size()];
            for (int view = 0; view < from.length; view++) {
                from[view] = sees(view);
            }
            return least(set, from);
        }

        int covers(int set, int k) {
            if (noSet(set)) {
                return UNKNOWN;
            }
            return k < 1 || k > 3 ? BAD : leastNow(set) >= k ? 1 : 0;
        }

        int times(int set) {
            return noSet(set) ? UNKNOWN : panels.isEmpty() ? NONE : leastNow(set);
        }

        int close(int x1, int y1, int x2, int y2) {
            if (!point(x1, y1) || !point(x2, y2)) {
                return BAD;
            }
            if (x2 <= x1 || y2 <= y1) {
                return STATE;
            }
            if (closed.size() == 4) {
                return FULL;
            }
            closed.add(new int[] {x1, y1, x2, y2});
            return closed.size();
        }

        int open() {
            if (closed.isEmpty()) {
                return STATE;
            }
            closed.remove(closed.size() - 1);
            return closed.size();
        }

        int wind(int x, int y) {
            if (x < -9 || x > 9 || y < -9 || y > 9) {
                return BAD;
            }
            int was = 100 * windX + windY + 909;
            windX = x;
            windY = y;
            return was;
        }

        int base(int x, int y) {
            if (!point(x, y)) {
                return BAD;
            }
            int was = 100 * base[0] + base[1];
            base = new int[] {x, y};
            return was;
        }

        int store(int what, int v) {
            int was = what == 0 ? battery : hover;
            if (what == 0 && v >= 1 && v <= 30000) {
                battery = v;
            } else if (what == 1 && v >= 0 && v <= 500) {
                hover = v;
            } else {
                return BAD;
            }
            return was;
        }

        int leg(int x1, int y1, int x2, int y2) {
            if (!point(x1, y1) || !point(x2, y2)) {
                return BAD;
            }
            return way(new int[] {x1, y1}, new int[] {x2, y2});
        }

        int way(int[] a, int[] b) {
            for (int[] box : closed) {
                if (enters(box, a, b)) {
                    return NONE;
                }
            }
            int dx = b[0] - a[0];
            int dy = b[1] - a[1];
            int root = 0;
            while (root * root < 100 * (dx * dx + dy * dy)) {
                root++;
            }
            int with = windX * dx + windY * dy;
            return root + Math.max(0, -with) / 10;
        }

        /** Looks at where the way crosses the lines of the box, and half way between each two of these places. */
        static boolean enters(int[] box, int[] a, int[] b) {
            int dx = b[0] - a[0];
            int dy = b[1] - a[1];
            List<long[]> at = new ArrayList<>();
            at.add(new long[] {0, 1});
            at.add(new long[] {1, 1});
            for (int edge = 0; edge < 4; edge++) {
                long d = edge % 2 == 0 ? dx : dy;
                long n = box[edge] - a[edge % 2];
                if (d < 0) {
                    d = -d;
                    n = -n;
                }
                if (d != 0 && n >= 0 && n <= d) {
                    at.add(new long[] {n, d});
                }
            }
            for (long[] s : at) {
                for (long[] t : at) {
                    long n = s[0] * t[1] + t[0] * s[1];
                    long d = 2 * s[1] * t[1];
                    long x = a[0] * d + n * dx;
                    long y = a[1] * d + n * dy;
                    if (x > box[0] * d && x < box[2] * d && y > box[1] * d && y < box[3] * d) {
                        return true;
                    }
                }
            }
            return false;
        }

        /** All orders, the first by VIEWS first; bestRow is null, if none of them can be flown. */
        void searchRow(int set) {
            bestRow = null;
            bestCost = Integer.MAX_VALUE;
            if (set != 0) {
                extend(new int[Integer.bitCount(set)], 0, set, base, 0);
            }
        }

        private void extend(int[] row, int size, int left, int[] from, int cost) {
            if (left == 0) {
                int back = way(from, base);
                if (back != NONE && cost + back < bestCost) {
                    bestCost = cost + back;
                    bestRow = row.clone();
                }
                return;
            }
            for (int view = 0; view < views.size(); view++) {
                if ((left >> view & 1) != 0) {
                    int step = way(from, views.get(view));
                    if (step != NONE) {
                        row[size] = view;
                        extend(row, size + 1, left - (1 << view), views.get(view), cost + step + hover);
                    }
                }
            }
        }

        int round(int set) {
            if (noSet(set)) {
                return UNKNOWN;
            }
            searchRow(set);
            return bestRow == null ? NONE : bestCost;
        }

        int stop(int set, int place) {
            if (noSet(set)) {
                return UNKNOWN;
            }
            searchRow(set);
            return bestRow == null || place < 0 || place >= bestRow.length ? NONE : bestRow[place];
        }

        /** Least ENERGY by number of FLIGHTS, over all ways to part the set. */
        int[] bestByFlights(int set) {
            int[] cost = new int[1 << views.size()];
            for (int part = 1; part <= set; part++) {
                if ((part & ~set) == 0) {
                    searchRow(part);
                    cost[part] = bestRow == null || bestCost > battery ? NONE : bestCost;
                }
            }
            int[] best = new int[11];
            Arrays.fill(best, NONE);
            partAll(set, 0, new int[10], 0, cost, best);
            return best;
        }

        /** Puts VIEW after VIEW into one of the parts begun or into a new one. */
        private void partAll(int set, int view, int[] parts, int many, int[] cost, int[] best) {
            if (view == views.size()) {
                int sum = 0;
                for (int i = 0; i < many; i++) {
                    if (cost[parts[i]] == NONE) {
                        return;
                    }
                    sum += cost[parts[i]];
                }
                if (best[many] == NONE || sum < best[many]) {
                    best[many] = sum;
                }
                return;
            }
            if ((set >> view & 1) == 0) {
                partAll(set, view + 1, parts, many, cost, best);
                return;
            }
            for (int i = 0; i <= many; i++) {
                parts[i] += 1 << view;
                partAll(set, view + 1, parts, Math.max(many, i + 1), cost, best);
                parts[i] -= 1 << view;
            }
        }

        int flights(int set) {
            if (noSet(set)) {
                return UNKNOWN;
            }
            int[] best = bestByFlights(set);
            for (int many = 0; many <= 10; many++) {
                if (best[many] != NONE) {
                    return many;
                }
            }
            return NONE;
        }

        int energy(int set) {
            int many = flights(set);
            return many < 0 ? many : bestByFlights(set)[many];
        }

        int log(int x, int y, int e) {
            if (!point(x, y) || e < 0 || e > 5) {
                return BAD;
            }
            if (logs.size() == 20) {
                return FULL;
            }
            logs.add(new int[] {x, y, e});
            return logs.size() - 1;
        }

        int proves(int log, int panel) {
            if (log < 0 || log >= logs.size() || noPanel(panel)) {
                return UNKNOWN;
            }
            int[] l = logs.get(log);
            for (int right = -1; right <= 1; right += 2) {
                for (int up = -1; up <= 1; up += 2) {
                    if (!looks(l[0] + right * l[2], l[1] + up * l[2], panel)) {
                        return 0;
                    }
                }
            }
            return 1;
        }

        int proved(int panel) {
            if (noPanel(panel)) {
                return UNKNOWN;
            }
            int sum = 0;
            for (int log = 0; log < logs.size(); log++) {
                sum += proves(log, panel);
            }
            return sum;
        }

        int missing(int i, int k) {
            if (k < 1 || k > 3) {
                return BAD;
            }
            List<Integer> found = new ArrayList<>();
            for (int panel = 0; panel < panels.size(); panel++) {
                if (proved(panel) < k) {
                    found.add(panel);
                }
            }
            return i < 0 || i >= found.size() ? NONE : found.get(i);
        }

        int mark(int panel, int at, int length, int year) {
            if (noPanel(panel)) {
                return UNKNOWN;
            }
            if (at < 0 || at > 1000 || length < 0 || length > 500 || year < 0 || year > 9) {
                return BAD;
            }
            if (marks.size() == 40) {
                return FULL;
            }
            marks.add(new int[] {panel, at, length, year});
            return marks.size() - 1;
        }

        int wipe(int mark) {
            if (mark < 0 || mark >= marks.size()) {
                return UNKNOWN;
            }
            if (marks.get(mark)[0] == NONE) {
                return STATE;
            }
            marks.get(mark)[0] = NONE;
            return 1;
        }

        List<int[]> on(int panel, int year) {
            List<int[]> found = new ArrayList<>();
            for (int[] mark : marks) {
                if (mark[0] == panel && mark[3] == year) {
                    found.add(mark);
                }
            }
            return found;
        }

        int marks(int panel, int year, boolean lengths) {
            if (noPanel(panel)) {
                return UNKNOWN;
            }
            if (year < 0 || year > 9) {
                return BAD;
            }
            int sum = 0;
            for (int[] mark : on(panel, year)) {
                sum += mark[2];
            }
            return lengths ? sum : on(panel, year).size();
        }

        int match(int panel, int one, int two, int tolerance, boolean drift) {
            if (noPanel(panel)) {
                return UNKNOWN;
            }
            if (one < 0 || one > 9 || two < 0 || two > 9 || tolerance < 0 || tolerance > 1000) {
                return BAD;
            }
            if (one == two) {
                return STATE;
            }
            int[] best = cheapestPairs(on(panel, one), on(panel, two), tolerance);
            int pairs = best.length - 1;
            while (best[pairs] == NONE) {
                pairs--;
            }
            return drift ? best[pairs] : pairs;
        }

        /** Least DRIFT by number of pairs: pair after pair by the cheapest chain of swaps (Bellman and Ford). */
        static int[] cheapestPairs(List<int[]> ones, List<int[]> twos, int tolerance) {
            int[] best = new int[Math.min(ones.size(), twos.size()) + 1];
            Arrays.fill(best, NONE);
            best[0] = 0;
            int[] mate = new int[twos.size()];
            Arrays.fill(mate, -1);
            for (int pairs = 1; pairs < best.length; pairs++) {
                int gain = swapChain(ones, twos, tolerance, mate);
                if (gain == NONE) {
                    break;
                }
                best[pairs] = best[pairs - 1] + gain;
            }
            return best;
        }

        private static int swapChain(List<int[]> ones, List<int[]> twos, int tolerance, int[] mate) {
            int far = 1 << 28;
            int[] toOne = new int[ones.size()];
            int[] toTwo = new int[twos.size()];
            int[] from = new int[twos.size()];
            Arrays.fill(toTwo, far);
            for (int two = 0; two < mate.length; two++) {
                if (mate[two] >= 0) {
                    toOne[mate[two]] = far;
                }
            }
            for (int pass = 0; pass <= ones.size() + twos.size(); pass++) {
                for (int one = 0; one < toOne.length; one++) {
                    for (int two = 0; two < toTwo.length; two++) {
                        int apart = Math.abs(ones.get(one)[1] - twos.get(two)[1]);
                        if (apart > tolerance) {
                            continue;
                        }
                        if (mate[two] != one && toOne[one] < far && toOne[one] + apart < toTwo[two]) {
                            toTwo[two] = toOne[one] + apart;
                            from[two] = one;
                        }
                        if (mate[two] == one && toTwo[two] < far && toTwo[two] - apart < toOne[one]) {
                            toOne[one] = toTwo[two] - apart;
                        }
                    }
                }
            }
            int end = -1;
            for (int two = 0; two < toTwo.length; two++) {
                if (mate[two] < 0 && toTwo[two] < far && (end < 0 || toTwo[two] < toTwo[end])) {
                    end = two;
                }
            }
            if (end < 0) {
                return NONE;
            }
            int gain = toTwo[end];
            int two = end;
            while (two >= 0) {
                int one = from[two];
                int before = -1;
                for (int other = 0; other < mate.length; other++) {
                    if (mate[other] == one) {
                        before = other;
                    }
                }
                mate[two] = one;
                two = before;
            }
            return gain;
        }

        int count(int what) {
            if (what < 0 || what > 4) {
                return BAD;
            }
            int there = 0;
            for (int[] mark : marks) {
                there += mark[0] == NONE ? 0 : 1;
            }
            return new int[] {panels.size(), views.size(), closed.size(), logs.size(), there}[what];
        }
    }
}
