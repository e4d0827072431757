import java.util.function.IntUnaryOperator;

/**
 * Each sentence of the document's terms and promises that names a boundary, with a test of its own: the last value on
 * each side and the first one beyond it, empty and full. (What is refused, in which order, is in RefusalTests.)
 */
public final class BoundaryTests {
    private static final int UNKNOWN = -1, BAD = -2, STATE = -3, FULL = -4, NONE = -9;
    /** What an object is used for at most. */
    private static final int CALLS = 512;
    private static String sentence = "";
    private static int wrong = 0;
    private static int checked = 0;

    /** Begins the test of a sentence, in the document's words. */
    private static void says(String words) {
        sentence = words;
    }

    private static void due(String what, int want, int got) {
        checked++;
        if (want != got) {
            wrong++;
            System.out.println("\"" + sentence + "\": " + what + " answered " + got + ", due is " + want);
        }
    }

    public static void main(String[] args) {
        nothingIsThere();
        atFirst();
        pointsGoFromNoughtToSixty();
        panelsAreTwelve();
        pointsOfAPanelAreUnlike();
        viewsAreTen();
        skinIsOnTheLeft();
        notOnItsLine();
        noFartherThanRange();
        rangeGoesByHalves();
        rangeBounds();
        slantAtLeast();
        slantBounds();
        noPointInCommon();
        endsOfTheWayAreOnIt();
        seesAsBits();
        coversAtLeast();
        coversWithoutPanels();
        fewestViewsCover();
        likeManyTheLeastNumber();
        coverByAllOrNone();
        leastOfTheTimes();
        closedPlacesAreFour();
        greaterXAndY();
        latestIsOpenAgain();
        insideNotEdge();
        cornersAreEdge();
        legToTheSame();
        leastWholeNumber();
        windBounds();
        windBelowNought();
        baseBounds();
        hoverBounds();
        batteryBounds();
        noMoreThanTheBattery();
        hoverAtEachView();
        noLegShut();
        fewestThenLeast();
        emptySets();
        largestSet();
        roundWhateverTheBattery();
        likeRoundsTheFirst();
        placesOfARound();
        logsAreTwenty();
        endsOfALog();
        allFourCorners();
        cornersOnTheLine();
        cornersNeedBeNoPoints();
        farthestCorner();
        provedByAllLogs();
        fewerThanK();
        ithMissing();
        marksAreForty();
        takenAwayForGood();
        placeLengthAndYear();
        lengthsTogether();
        atMostSoFarApart();
        asManyAsCanBe();
        leastSumOfThese();
        noMarkInTwo();
        yearsBothWays();
        countsOfAll();
        lastCallOfAll();
        System.out.println("BoundaryTests: " + checked + " answers looked at, " + wrong + " not as due");
        if (wrong != 0) {
            System.exit(1);
        }
    }

    // ---- a new object

    private static void nothingIsThere() {
        says("A new object: Nothing is there.");
        WingLooks w = new WingLooks();
        for (int what = 0; what <= 4; what++) {
            due("count " + what, 0, w.count(what));
        }
        due("the first PANEL that could be", UNKNOWN, w.seen(0, 0, 0));
        due("the first VIEW", UNKNOWN, w.sees(0));
        due("a set with the first VIEW", UNKNOWN, w.covers(1, 1));
        due("the first LOG", UNKNOWN, w.proves(0, 0));
        due("the first MARK", UNKNOWN, w.wipe(0));
        due("a CLOSED place", STATE, w.open());
        due("a PANEL that LOGS miss", NONE, w.missing(0, 3));
        due("the number of the first PANEL", 0, w.panel(0, 0, 1, 0));
        due("the number of the first VIEW", 0, w.view(0, 0));
        due("the number of the first LOG", 0, w.log(0, 0, 0));
        due("the number of the first MARK", 0, w.mark(0, 0, 0, 0));
        due("the first CLOSED place", 1, w.close(0, 0, 1, 1));
    }

    private static void atFirst() {
        says("at first: RANGE 30, SLANT 25, BASE 0, 0, HOVER 0, BATTERY 1000 (and no WIND)");
        WingLooks w = flatPanel();
        due("30 away", 1, w.seen(30, 40, 0));
        due("31 away", 0, w.seen(30, 41, 0));
        due("squared sine 121 / 482, above 25", 1, w.seen(49, 21, 0));
        due("squared sine 16 / 65, below 25", 0, w.seen(37, 14, 0));
        w.view(30, 40);
        due("a ROUND from 0, 0 without HOVER and WIND", 1000, w.round(1));
        due("a FLIGHT of 1000", 1, w.flights(1));
        w.wind(3, -2);
        due("a ROUND of 1001", 1001, w.round(1));
        due("a FLIGHT of 1001", NONE, w.flights(1));
        WingLooks was = new WingLooks();
        due("RANGE", 30, was.eye(0, 1));
        due("SLANT", 25, was.eye(1, 0));
        due("WIND", 909, was.wind(1, 1));
        due("BASE", 0, was.base(1, 1));
        due("BATTERY", 1000, was.store(0, 1));
        due("HOVER", 0, was.store(1, 1));
    }

    // ---- what is looked at

    private static void pointsGoFromNoughtToSixty() {
        says("POINTS are x, y, 0 .. 60 each");
        for (int x = 0; x <= 60; x += 60) {
            for (int y = 0; y <= 60; y += 60) {
                WingLooks w = flatPanel();
                due("panel from " + x + ", " + y, 1, w.panel(x, y, 30, 0));
                due("panel to " + x + ", " + y, 2, w.panel(30, 0, x, y));
                due("view", 0, w.view(x, y));
                due("seen", 0, w.seen(x, y, 0));
                due("base", 0, w.base(x, y));
                due("base is there", 100 * x + y, w.base(0, 0));
                due("leg from " + x + ", " + y, 425, w.leg(x, y, 30, 30));
                due("leg to " + x + ", " + y, 425, w.leg(30, 30, x, y));
                due("log", 0, w.log(x, y, 0));
                int[] beyond = {x == 0 ? -1 : 61, y == 0 ? -1 : 61};
                due("panel from beyond x", BAD, w.panel(beyond[0], y, 30, 0));
                due("panel to beyond y", BAD, w.panel(30, 0, x, beyond[1]));
                due("view beyond x", BAD, w.view(beyond[0], y));
                due("seen beyond y", BAD, w.seen(x, beyond[1], 0));
                due("base beyond x", BAD, w.base(beyond[0], y));
                due("leg from beyond y", BAD, w.leg(x, beyond[1], 30, 30));
                due("leg to beyond x", BAD, w.leg(30, 30, beyond[0], y));
                due("log beyond y", BAD, w.log(x, beyond[1], 0));
            }
        }
        WingLooks w = new WingLooks();
        due("close from 0, 0", 1, w.close(0, 0, 1, 1));
        due("close to 60, 60", 2, w.close(59, 59, 60, 60));
        due("close from beyond x", BAD, w.close(-1, 0, 1, 1));
        due("close from beyond y", BAD, w.close(0, -1, 1, 1));
        due("close to beyond x", BAD, w.close(59, 59, 61, 60));
        due("close to beyond y", BAD, w.close(59, 59, 60, 61));
    }

    private static void panelsAreTwelve() {
        says("PANELS 0, 1, .. (12 at most)");
        WingLooks w = new WingLooks();
        for (int i = 0; i < 12; i++) {
            due("panel", i, w.panel(5 * i, 10, 5 * i + 1, 10));
            due("count", i + 1, w.count(0));
            due("the last one is known", 0, w.seen(0, 0, i));
            due("the next one is not", UNKNOWN, w.seen(0, 0, i + 1));
        }
        due("a 13th", FULL, w.panel(0, 0, 1, 0));
        due("count", 12, w.count(0));
        due("the 13th is not known", UNKNOWN, w.seen(0, 0, 12));
    }

    private static void pointsOfAPanelAreUnlike() {
        says("go straight from a POINT to another, unlike one");
        WingLooks w = new WingLooks();
        due("both 0, 0", STATE, w.panel(0, 0, 0, 0));
        due("both 60, 60", STATE, w.panel(60, 60, 60, 60));
        due("both 7, 8", STATE, w.panel(7, 8, 7, 8));
        due("unlike by x", 0, w.panel(7, 8, 8, 8));
        due("unlike by y", 1, w.panel(7, 8, 7, 7));
        due("8, 7 is not 7, 8", 2, w.panel(7, 8, 8, 7));
        due("the longest one", 3, w.panel(0, 0, 60, 60));
        due("the longest one back", 4, w.panel(60, 60, 0, 0));
        due("an old one again", 5, w.panel(7, 8, 8, 8));
    }

    private static void viewsAreTen() {
        says("VIEWS 0, 1, .. (10 at most)");
        WingLooks w = new WingLooks();
        for (int i = 0; i < 10; i++) {
            due("view", i, w.view(60, 60));
            due("count", i + 1, w.count(1));
            due("the last one is known", 0, w.sees(i));
            due("the next one is not", UNKNOWN, w.sees(i + 1));
        }
        due("an 11th", FULL, w.view(0, 0));
        due("count", 10, w.count(1));
        due("the set of all", 1, w.covers(1023, 1));
        due("a set with an 11th", UNKNOWN, w.covers(1024, 1));
    }

    /** Its MIDDLE is 30, 10, and what is above it is to the left of it. */
    private static WingLooks flatPanel() {
        WingLooks w = new WingLooks();
        w.panel(20, 10, 40, 10);
        return w;
    }

    private static final int[][] EIGHT_WAYS = {{1, 0}, {1, 1}, {0, 1}, {-1, 1}, {-1, 0}, {-1, -1}, {0, -1}, {1, -1}};

    private static void skinIsOnTheLeft() {
        says("their skin is on the left (x to the right, y up)");
        for (int[] way : EIGHT_WAYS) {
            WingLooks w = new WingLooks();
            w.panel(30 - 2 * way[0], 30 - 2 * way[1], 30 + 2 * way[0], 30 + 2 * way[1]);
            String what = "PANEL along " + way[0] + ", " + way[1];
            due(what + " from its left", 1, w.seen(30 - way[1], 30 + way[0], 0));
            due(what + " from its right", 0, w.seen(30 + way[1], 30 - way[0], 0));
        }
    }

    private static void notOnItsLine() {
        says("if V lies to the left of it (not on its line)");
        for (int[] way : EIGHT_WAYS) {
            WingLooks w = new WingLooks();
            w.eye(1, 0);
            w.panel(30 - 2 * way[0], 30 - 2 * way[1], 30 + 2 * way[0], 30 + 2 * way[1]);
            for (int step = -5; step <= 5; step++) {
                int x = 30 + step * way[0];
                int y = 30 + step * way[1];
                due("on the line, at step " + step, 0, w.seen(x, y, 0));
                due("one to the left, at step " + step, 1, w.seen(x - way[1], y + way[0], 0));
                due("one to the right, at step " + step, 0, w.seen(x + way[1], y - way[0], 0));
            }
        }
        WingLooks steep = new WingLooks();
        steep.eye(1, 0);
        steep.eye(0, 90);
        steep.panel(0, 0, 59, 60);
        due("the nearest POINT to the left", 1, steep.seen(58, 59, 0));
        due("the nearest POINT to the right", 0, steep.seen(1, 1, 0));
    }

    private static void noFartherThanRange() {
        says("M is no farther from V than RANGE");
        for (int range = 1; range < 50; range++) {
            WingLooks w = flatPanel();
            w.eye(0, range);
            due("as far as RANGE " + range, 1, w.seen(30, 10 + range, 0));
            due("one farther than RANGE " + range, 0, w.seen(30, 11 + range, 0));
        }
        int[][] triples = {{3, 4, 5}, {4, 3, 5}, {15, 8, 17}, {24, 18, 30}, {21, 28, 35}, {14, 48, 50}, {30, 40, 50}};
        for (int[] triple : triples) {
            WingLooks w = flatPanel();
            w.eye(1, 0);
            w.eye(0, triple[2]);
            due("as far as " + triple[2], 1, w.seen(30 + triple[0], 10 + triple[1], 0));
            due("as far on the other hand", 1, w.seen(30 - triple[0], 10 + triple[1], 0));
            w.eye(0, triple[2] - 1);
            due("farther than " + (triple[2] - 1), 0, w.seen(30 + triple[0], 10 + triple[1], 0));
        }
    }

    private static void rangeGoesByHalves() {
        says("with the MIDDLE M (half way)");
        WingLooks w = new WingLooks();
        w.panel(10, 10, 11, 10);
        w.eye(1, 0);
        w.eye(0, 1);
        due("0.5 and 1 away is farther than 1", 0, w.seen(10, 11, 0));
        w.eye(0, 2);
        due("0.5 and 1 away is within 2", 1, w.seen(10, 11, 0));
        due("1.5 and 1 away is within 2, to the left", 1, w.seen(9, 11, 0));
        due("1.5 and 1 away is within 2, to the right", 1, w.seen(12, 11, 0));
        due("2.5 and 1 away is not, to the left", 0, w.seen(8, 11, 0));
        due("2.5 and 1 away is not, to the right", 0, w.seen(13, 11, 0));
        due("0.5 and 2 away is not", 0, w.seen(11, 12, 0));
        WingLooks both = new WingLooks();
        both.panel(10, 10, 13, 11);
        both.eye(0, 5);
        // M is 11.5, 10.5: 3.5 and 3.5 away is 4.95, 3.5 and 4.5 away is 5.7.
        due("half in x and in y, within 5", 1, both.seen(8, 14, 0));
        due("half in x and in y, beyond 5", 0, both.seen(8, 15, 0));
    }

    private static void rangeBounds() {
        says("a RANGE (1 .. 90; 30 at first)");
        WingLooks w = new WingLooks();
        due("1 is one", 30, w.eye(0, 1));
        due("0 is none", BAD, w.eye(0, 0));
        due("90 is one", 1, w.eye(0, 90));
        due("91 is none", BAD, w.eye(0, 91));
        due("-1 is none", BAD, w.eye(0, -1));
        due("it is still 90", 90, w.eye(0, 90));
        w.panel(0, 1, 1, 0);
        w.eye(1, 0);
        w.log(60, 60, 5);
        w.log(60, 60, 4);
        due("from corner to corner is within 90", 1, w.seen(60, 60, 0));
        // 64.5 and 64.5 away is 91.2, 63.5 and 63.5 away is 89.8.
        due("beyond 90, out of the field", 0, w.proves(0, 0));
        due("within 90, out of the field", 1, w.proves(1, 0));
    }

    private static void slantAtLeast() {
        says("the sine of the angle .., squared, is SLANT by 100 at least");
        int[][] exact = {{0, 1, 100}, {1, 7, 98}, {1, 3, 90}, {1, 2, 80}, {3, 4, 64}, {1, 1, 50}, {4, 3, 36},
            {2, 1, 20}, {3, 1, 10}, {7, 1, 2}};
        for (int[] e : exact) {
            WingLooks w = flatPanel();
            w.eye(1, e[2]);
            due("just SLANT " + e[2], 1, w.seen(30 + 2 * e[0], 10 + 2 * e[1], 0));
            due("just SLANT " + e[2] + " on the other hand", 1, w.seen(30 - 2 * e[0], 10 + 2 * e[1], 0));
            due("one beyond", 0, w.seen(31 + 2 * e[0], 10 + 2 * e[1], 0));
            if (e[2] < 100) {
                w.eye(1, e[2] + 1);
                due("one below SLANT " + (e[2] + 1), 0, w.seen(30 + 2 * e[0], 10 + 2 * e[1], 0));
            }
        }
        WingLooks askew = new WingLooks();
        askew.panel(10, 10, 20, 20);
        askew.eye(1, 80);
        due("a PANEL askew, just 80", 1, askew.seen(14, 18, 0));
        askew.eye(1, 81);
        due("a PANEL askew, below 81", 0, askew.seen(14, 18, 0));
        // M is 11.5, 10.5, the way 5, 5: the sine's square is 100 / (10 * 50).
        WingLooks half = new WingLooks();
        half.panel(10, 10, 13, 11);
        half.eye(1, 20);
        due("a MIDDLE at halves, just above 20", 1, half.seen(15, 14, 0));
        due("a MIDDLE at halves, below 20", 0, half.seen(16, 14, 0));
    }

    private static void slantBounds() {
        says("a SLANT (0 .. 100; 25 at first)");
        WingLooks w = flatPanel();
        due("0 is one", 25, w.eye(1, 0));
        due("-1 is none", BAD, w.eye(1, -1));
        w.eye(0, 90);
        due("with 0 the flattest is enough", 1, w.seen(60, 11, 0));
        due("100 is one", 0, w.eye(1, 100));
        due("101 is none", BAD, w.eye(1, 101));
        due("it is still 100", 100, w.eye(1, 100));
        due("with 100 straight above", 1, w.seen(30, 60, 0));
        due("with 100 one beside", 0, w.seen(29, 60, 0));
        due("what is 2", BAD, w.eye(2, 50));
        due("what is -1", BAD, w.eye(-1, 50));
    }

    /** From 30, 20 at the PANEL with the MIDDLE 30, 10, with one other PANEL, either way round. */
    private static void past(int want, String what, int x1, int y1, int x2, int y2) {
        WingLooks w = flatPanel();
        w.panel(x1, y1, x2, y2);
        due(what, want, w.seen(30, 20, 0));
        WingLooks back = flatPanel();
        back.panel(x2, y2, x1, y1);
        due(what + ", back", want, back.seen(30, 20, 0));
        WingLooks first = new WingLooks();
        first.panel(x1, y1, x2, y2);
        first.panel(20, 10, 40, 10);
        due(what + ", the lower number", want, first.seen(30, 20, 1));
    }

    private static void noPointInCommon() {
        says("no other PANEL has a point in common with that way");
        past(0, "across it", 29, 15, 31, 15);
        past(0, "its end on it, from the left", 0, 15, 30, 15);
        past(0, "its end on it, from the right", 30, 15, 60, 15);
        past(1, "one short of it, from the left", 0, 15, 29, 15);
        past(1, "one short of it, from the right", 31, 15, 60, 15);
        past(0, "askew across it", 29, 11, 31, 19);
        past(1, "beside it", 31, 5, 31, 25);
        past(0, "along it, within", 30, 12, 30, 18);
        past(0, "along it, all of it", 30, 10, 30, 20);
        past(0, "along it, beyond both ends", 30, 0, 30, 30);
        WingLooks alone = flatPanel();
        due("its own PANEL is no other one", 1, alone.seen(30, 20, 0));
        WingLooks narrow = new WingLooks();
        narrow.panel(0, 0, 2, 0);
        narrow.eye(0, 90);
        narrow.eye(1, 0);
        narrow.panel(30, 30, 60, 30);
        // The way from 60, 60 to 1, 0 is at 30.5, 30.
        due("half a step inside its end", 0, narrow.seen(60, 60, 0));
        // The way from 58, 60 to 1, 0 is at 29.5, 30.
        due("half a step beyond its end", 1, narrow.seen(58, 60, 0));
    }

    private static void endsOfTheWayAreOnIt() {
        says("(V and M are on it)");
        past(0, "begins in V, away from M", 30, 20, 30, 30);
        past(0, "begins in V, to the side", 30, 20, 40, 20);
        past(0, "goes through V", 20, 20, 40, 20);
        past(1, "one behind V", 30, 21, 30, 30);
        past(1, "one beside V", 31, 20, 40, 20);
        past(1, "one above V", 20, 21, 40, 21);
        past(0, "begins in M, behind the PANEL", 30, 10, 30, 0);
        past(0, "goes through M", 29, 9, 31, 11);
        past(0, "on the PANEL's line, up to M", 0, 10, 30, 10);
        past(1, "on the PANEL's line, up to one before M", 0, 10, 29, 10);
        past(1, "on the PANEL's line, from one behind M", 31, 10, 60, 10);
        past(0, "the same PANEL twice", 20, 10, 40, 10);
        past(1, "one behind M", 30, 9, 30, 0);
        past(1, "one below the PANEL", 0, 9, 60, 9);
        past(1, "joined to its end", 40, 10, 40, 30);
    }

    /** Twelve PANELS in a row, all of which are SEEN from far above. */
    private static WingLooks twelvePanels() {
        WingLooks w = new WingLooks();
        for (int i = 0; i < 12; i++) {
            w.panel(5 * i, 10, 5 * i + 2, 10);
        }
        w.eye(0, 90);
        return w;
    }

    private static void seesAsBits() {
        says("The PANELS that are SEEN from a VIEW, as a set of bits.");
        WingLooks w = twelvePanels();
        w.view(28, 50);
        w.view(28, 0);
        w.view(56, 11);
        w.view(1, 11);
        due("all twelve", 4095, w.sees(0));
        due("none", 0, w.sees(1));
        due("the last one alone", 2048, w.sees(2));
        due("the first one alone", 1, w.sees(3));
        WingLooks bare = new WingLooks();
        bare.view(0, 0);
        due("without PANELS", 0, bare.sees(0));
    }

    private static void coversAtLeast() {
        says("COVERS k times, if each PANEL is SEEN from k of them at least");
        WingLooks w = twelvePanels();
        for (int i = 0; i < 4; i++) {
            w.view(28, 50 + i);
        }
        w.view(28, 0);
        for (int many = 0; many <= 4; many++) {
            int set = (1 << many) - 1;
            for (int k = 1; k <= 3; k++) {
                due("k " + k + " by " + many, many >= k ? 1 : 0, w.covers(set, k));
                due("k " + k + " by " + many + " and a blind one", many >= k ? 1 : 0, w.covers(set | 16, k));
            }
        }
        WingLooks last = flatPanel();
        last.view(30, 20);
        due("the only PANEL is SEEN", 1, last.covers(1, 1));
        last.panel(40, 5, 20, 5);
        due("the last PANEL is not", 0, last.covers(1, 1));
        WingLooks first = new WingLooks();
        first.panel(40, 5, 20, 5);
        first.panel(20, 10, 40, 10);
        first.view(30, 20);
        due("the first PANEL is not", 0, first.covers(1, 1));
    }

    private static void coversWithoutPanels() {
        says("(Without PANELS each set does.)");
        WingLooks w = new WingLooks();
        for (int k = 1; k <= 3; k++) {
            due("the empty set, without VIEWS", 1, w.covers(0, k));
            due("cover without VIEWS", 0, w.cover(k));
        }
        w.view(0, 0);
        w.view(60, 60);
        for (int k = 1; k <= 3; k++) {
            for (int set = 0; set < 4; set++) {
                due("set " + set, 1, w.covers(set, k));
            }
            due("cover: the empty set is the fewest", 0, w.cover(k));
        }
        w.panel(20, 10, 40, 10);
        due("with one PANEL it does no more", 0, w.covers(3, 1));
        due("with one PANEL there is none", NONE, w.cover(1));
    }

    private static void fewestViewsCover() {
        says("The fewest VIEWS that COVER k (1 .. 3) times");
        WingLooks w = new WingLooks();
        w.panel(0, 10, 10, 10);
        w.panel(50, 10, 60, 10);
        w.eye(0, 90);
        w.eye(1, 10);
        w.view(5, 11);
        w.view(55, 11);
        w.view(30, 40);
        due("one high VIEW ahead of two low ones", 4, w.cover(1));
        due("all three", 7, w.cover(2));
        w.view(30, 41);
        due("two high ones ahead of three", 12, w.cover(2));
        due("two high and two low ones", 15, w.cover(3));
        w.view(30, 42);
        due("three high ones", 28, w.cover(3));
        due("k 0", BAD, w.cover(0));
        due("k 4", BAD, w.cover(4));
    }

    private static void likeManyTheLeastNumber() {
        says("as a set of bits; of like many the least number");
        WingLooks w = twelvePanels();
        w.view(28, 0);
        for (int i = 0; i < 9; i++) {
            w.view(28, 50 + i);
        }
        due("one of nine", 2, w.cover(1));
        due("two of nine", 6, w.cover(2));
        due("three of nine", 14, w.cover(3));
    }

    /** Ten PANELS, each with a VIEW that sees it alone. */
    private static WingLooks tenOfEach() {
        WingLooks w = new WingLooks();
        w.eye(0, 1);
        for (int i = 0; i < 10; i++) {
            w.panel(6 * i, 10, 6 * i + 2, 10);
            w.view(6 * i + 1, 11);
        }
        return w;
    }

    private static void coverByAllOrNone() {
        says("cover: .. NONE.");
        WingLooks w = tenOfEach();
        due("all ten VIEWS are needed", 1023, w.cover(1));
        due("not twice", NONE, w.cover(2));
        w.panel(0, 50, 2, 50);
        due("one that nobody sees", NONE, w.cover(1));
        due("without VIEWS", NONE, flatPanel().cover(1));
    }

    private static void leastOfTheTimes() {
        says("times: .. the least of them; NONE: there is no PANEL.");
        WingLooks w = flatPanel();
        for (int i = 0; i < 10; i++) {
            due("by " + i, i, w.times((1 << i) - 1));
            w.view(30, 20 + i);
        }
        due("by all ten, more than any k", 10, w.times(1023));
        WingLooks uneven = tenOfEach();
        due("once each", 1, uneven.times(1023));
        due("all but the first", 0, uneven.times(1022));
        due("all but the last", 0, uneven.times(511));
        WingLooks bare = new WingLooks();
        due("no PANEL, no VIEW", NONE, bare.times(0));
        bare.view(0, 0);
        due("no PANEL", NONE, bare.times(1));
        bare.panel(20, 10, 40, 10);
        due("one PANEL", 0, bare.times(1));
    }

    // ---- legs, flights

    private static void closedPlacesAreFour() {
        says("CLOSED places: .. (4 at most)");
        WingLooks w = new WingLooks();
        for (int i = 1; i <= 4; i++) {
            due("close", i, w.close(10 * i, 10, 10 * i + 5, 15));
            due("count", i, w.count(2));
            due("it shuts", NONE, w.leg(10 * i + 1, 11, 10 * i + 1, 11));
        }
        due("a fifth", FULL, w.close(50, 10, 55, 15));
        due("the fifth does not shut", 0, w.leg(51, 11, 51, 11));
        due("count", 4, w.count(2));
        due("one is opened", 3, w.open());
        due("there is room again", 4, w.close(50, 10, 55, 15));
        due("but no more", FULL, w.close(50, 10, 55, 15));
    }

    private static void greaterXAndY() {
        says("rectangles from a POINT to one with greater x and y");
        WingLooks w = new WingLooks();
        due("x as great", STATE, w.close(5, 5, 5, 6));
        due("y as great", STATE, w.close(5, 5, 6, 5));
        due("x less", STATE, w.close(5, 5, 4, 6));
        due("y less", STATE, w.close(5, 5, 6, 4));
        due("both as great", STATE, w.close(5, 5, 5, 5));
        due("both less", STATE, w.close(5, 5, 4, 4));
        due("both one greater", 1, w.close(5, 5, 6, 6));
        due("all of the field", 2, w.close(0, 0, 60, 60));
        due("x 60 as great", STATE, w.close(60, 0, 60, 60));
        due("y 60 as great", STATE, w.close(0, 60, 60, 60));
        due("the last column", 3, w.close(59, 0, 60, 60));
        due("the last row", 4, w.close(0, 59, 60, 60));
    }

    private static void latestIsOpenAgain() {
        says("The latest CLOSED place is open again: how many are left. STATE: there is none.");
        WingLooks w = new WingLooks();
        due("none yet", STATE, w.open());
        for (int i = 0; i < 4; i++) {
            w.close(10 * i, 10, 10 * i + 5, 15);
        }
        for (int left = 3; left >= 0; left--) {
            due("open", left, w.open());
            for (int i = 0; i < 4; i++) {
                due("place " + i + " of " + left, i < left ? NONE : 0, w.leg(10 * i + 1, 11, 10 * i + 1, 11));
            }
        }
        due("none any more", STATE, w.open());
        due("count", 0, w.count(2));
    }

    private static void insideNotEdge() {
        says("their inside (not their edge) must not be met; .. SHUT, if any of its points lies inside");
        WingLooks w = new WingLooks();
        w.close(10, 10, 20, 20);
        for (int side = 9; side <= 21; side++) {
            boolean inside = side > 10 && side < 20;
            due("up at x " + side, inside ? NONE : 600, w.leg(side, 0, side, 60));
            due("down at x " + side, inside ? NONE : 600, w.leg(side, 60, side, 0));
            due("right at y " + side, inside ? NONE : 600, w.leg(0, side, 60, side));
            due("left at y " + side, inside ? NONE : 600, w.leg(60, side, 0, side));
        }
        due("ends at the left edge", 100, w.leg(0, 15, 10, 15));
        due("ends one beyond the left edge", NONE, w.leg(0, 15, 11, 15));
        due("ends at the right edge", 100, w.leg(30, 15, 20, 15));
        due("ends one beyond the right edge", NONE, w.leg(30, 15, 19, 15));
        due("ends at the lower edge", 100, w.leg(15, 0, 15, 10));
        due("ends one beyond the lower edge", NONE, w.leg(15, 0, 15, 11));
        due("ends at the upper edge", 100, w.leg(15, 30, 15, 20));
        due("ends one beyond the upper edge", NONE, w.leg(15, 30, 15, 19));
        due("edge to edge within", NONE, w.leg(10, 11, 11, 10));
        due("corner to corner within", NONE, w.leg(10, 20, 20, 10));
        due("begins inside", NONE, w.leg(11, 11, 0, 0));
        due("lies inside", NONE, w.leg(11, 11, 19, 19));
        w.close(20, 10, 30, 20);
        due("between two that share an edge", 600, w.leg(20, 0, 20, 60));
        WingLooks small = new WingLooks();
        small.close(30, 30, 31, 31);
        due("a place without a POINT inside, met", NONE, small.leg(0, 0, 60, 60));
        due("a place without a POINT inside, its corners", 15, small.leg(29, 30, 30, 31));
        due("a place without a POINT inside, its edge", 10, small.leg(30, 30, 31, 30));
    }

    private static void cornersAreEdge() {
        says("their inside (not their edge) must not be met, at each corner");
        for (int right = 0; right <= 1; right++) {
            for (int upper = 0; upper <= 1; upper++) {
                // Away from the inside of the place, whose sides are 10 long.
                int outX = 2 * right - 1;
                int outY = 2 * upper - 1;
                WingLooks w = new WingLooks();
                w.close(30, 30, 40, 40);
                int x = 30 + 10 * right;
                int y = 30 + 10 * upper;
                String at = " at " + x + ", " + y;
                bothWays(w, "touches the corner" + at, 283, x + 10 * outX, y - 10 * outY, x - 10 * outX, y + 10 * outY);
                bothWays(w, "misses the corner" + at, 269, x + 10 * outX, y - 9 * outY, x - 9 * outX, y + 10 * outY);
                bothWays(w, "cuts the corner" + at, NONE, x + 10 * outX, y - 10 * outY, x - 11 * outX, y + 10 * outY);
                bothWays(w, "barely cuts it" + at, NONE, x + outX, y - outY, x - outX, y);
                bothWays(w, "ends in the corner" + at, 0, x, y, x, y);
                bothWays(w, "from the corner inside" + at, NONE, x, y, x - outX, y - outY);
                bothWays(w, "from the corner outside" + at, 15, x, y, x + outX, y + outY);
            }
        }
    }

    private static void bothWays(WingLooks w, String what, int want, int x1, int y1, int x2, int y2) {
        due(what, want, w.leg(x1, y1, x2, y2));
        due(what + ", back", want, w.leg(x2, y2, x1, y1));
    }

    private static void legToTheSame() {
        says("A LEG goes straight from a POINT to a POINT (also the same)");
        WingLooks w = new WingLooks();
        w.close(10, 10, 12, 12);
        w.wind(-9, -9);
        for (int x = 9; x <= 13; x++) {
            for (int y = 9; y <= 13; y++) {
                due("at " + x + ", " + y, x == 11 && y == 11 ? NONE : 0, w.leg(x, y, x, y));
            }
        }
        due("at 0, 0", 0, w.leg(0, 0, 0, 0));
        due("at 60, 60", 0, w.leg(60, 60, 60, 60));
    }

    private static void leastWholeNumber() {
        says("the least whole number whose square is 100 (dx dx + dy dy) at least");
        for (int dx = 0; dx <= 60; dx++) {
            WingLooks w = new WingLooks();
            int energy = 0;
            for (int dy = 0; dy <= 60; dy++) {
                while (energy * energy < 100 * (dx * dx + dy * dy)) {
                    energy++;
                }
                due("way " + dx + ", " + dy, energy, w.leg(0, 0, dx, dy));
                due("way " + -dx + ", " + -dy, energy, w.leg(60, 60, 60 - dx, 60 - dy));
                due("way " + dx + ", " + -dy, energy, w.leg(0, 60, dx, 60 - dy));
            }
        }
    }

    private static void windBounds() {
        says("a WIND (-9 .. 9 each): 100 times what x was, and y, and 909 more");
        WingLooks w = new WingLooks();
        due("none at first", 909, w.wind(-9, -9));
        due("the least", 0, w.wind(9, 9));
        due("the greatest", 1818, w.wind(-9, 9));
        due("-9, 9", 18, w.wind(9, -9));
        due("9, -9", 1800, w.wind(-1, 1));
        due("-1, 1", 810, w.wind(4, -5));
        due("x 10", BAD, w.wind(10, 0));
        due("x -10", BAD, w.wind(-10, 0));
        due("y 10", BAD, w.wind(0, 10));
        due("y -10", BAD, w.wind(0, -10));
        due("it is still 4, -5", 1304, w.wind(0, 0));
    }

    private static void windBelowNought() {
        says("if wind x dx + wind y dy is below 0, a tenth of its size, cut");
        WingLooks w = new WingLooks();
        w.wind(-1, 0);
        for (int dx = 0; dx <= 60; dx++) {
            due("against it, " + dx, 10 * dx + dx / 10, w.leg(0, 0, dx, 0));
            due("with it, " + dx, 10 * dx, w.leg(dx, 0, 0, 0));
            due("across it, " + dx, 10 * dx, w.leg(0, 0, 0, dx));
        }
        w.wind(0, 1);
        due("y, against it by 9", 90, w.leg(0, 9, 0, 0));
        due("y, against it by 10", 101, w.leg(0, 10, 0, 0));
        due("y, against it by 19", 191, w.leg(0, 19, 0, 0));
        due("y, against it by 20", 202, w.leg(0, 20, 0, 0));
        w.wind(-9, -9);
        due("the most against it", 849 + 108, w.leg(0, 0, 60, 60));
        due("the most with it", 849, w.leg(60, 60, 0, 0));
        w.wind(9, 9);
        due("the most against it, back", 849 + 108, w.leg(60, 60, 0, 0));
        w.wind(9, -9);
        due("x and y even out to 0", 849, w.leg(0, 0, 60, 60));
        due("x and y even out to -9", 842, w.leg(0, 0, 59, 60));
        w.wind(-9, 8);
        due("x and y make -10", 142 + 1, w.leg(0, 0, 10, 10));
    }

    private static void baseBounds() {
        says("THE BASE is a POINT (0, 0 at first): 100 times what its x was, and its y");
        WingLooks w = new WingLooks();
        due("at first", 0, w.base(60, 60));
        due("60, 60", 6060, w.base(0, 60));
        due("0, 60", 60, w.base(60, 0));
        due("60, 0", 6000, w.base(1, 2));
        due("x 61", BAD, w.base(61, 2));
        due("x -1", BAD, w.base(-1, 2));
        due("y 61", BAD, w.base(1, 61));
        due("y -1", BAD, w.base(1, -1));
        due("it is still 1, 2", 102, w.base(0, 0));
        w.view(60, 60);
        due("a ROUND from the one corner", 1698, w.round(1));
        w.base(60, 60);
        due("a ROUND from the other corner", 0, w.round(1));
    }

    private static void hoverBounds() {
        says("HOVER an ENERGY at each VIEW (0 .. 500; 0 at first)");
        WingLooks w = new WingLooks();
        due("at first", 0, w.store(1, 500));
        due("501", BAD, w.store(1, 501));
        due("still 500", 500, w.store(1, 0));
        due("-1", BAD, w.store(1, -1));
        due("still 0", 0, w.store(1, 0));
        due("THE BATTERY is another one", 1000, w.store(0, 1000));
        due("what is 2", BAD, w.store(2, 1));
        due("what is -1", BAD, w.store(-1, 1));
    }

    private static void batteryBounds() {
        says("THE BATTERY 1 .. 30000 (1000 at first)");
        WingLooks w = new WingLooks();
        due("at first", 1000, w.store(0, 30000));
        due("30001", BAD, w.store(0, 30001));
        due("still 30000", 30000, w.store(0, 1));
        due("0", BAD, w.store(0, 0));
        due("-1", BAD, w.store(0, -1));
        due("still 1", 1, w.store(0, 1));
        due("HOVER is another one", 0, w.store(1, 0));
    }

    private static void noMoreThanTheBattery() {
        says("it takes the ENERGY of its LEGS, and HOVER at each VIEW, no more than THE BATTERY");
        WingLooks w = new WingLooks();
        w.view(30, 40);
        w.store(1, 7);
        w.store(0, 1007);
        due("just THE BATTERY", 1, w.flights(1));
        due("just THE BATTERY, energy", 1007, w.energy(1));
        w.store(0, 1006);
        due("one more than THE BATTERY", NONE, w.flights(1));
        due("one more than THE BATTERY, energy", NONE, w.energy(1));
        WingLooks least = new WingLooks();
        least.view(0, 0);
        least.view(0, 0);
        least.store(0, 1);
        due("nothing is taken with the least BATTERY", 1, least.flights(3));
        least.store(1, 1);
        due("1 each with the least BATTERY", 2, least.flights(3));
        due("1 each with the least BATTERY, energy", 2, least.energy(3));
        least.store(1, 2);
        due("2 each with the least BATTERY", NONE, least.flights(3));
    }

    private static void hoverAtEachView() {
        says("HOVER an ENERGY at each VIEW");
        WingLooks w = new WingLooks();
        for (int many = 1; many <= 10; many++) {
            w.view(0, 0);
            w.store(1, 500);
            due("500 at " + many, 500 * many, w.round((1 << many) - 1));
            w.store(1, 1);
            due("1 at " + many, many, w.round((1 << many) - 1));
            w.store(1, 0);
            due("0 at " + many, 0, w.round((1 << many) - 1));
        }
    }

    private static void noLegShut() {
        says("from THE BASE to some unlike VIEWS .. and back, no LEG SHUT");
        WingLooks w = new WingLooks();
        w.view(10, 5);
        w.view(11, 5);
        w.view(10, 10);
        w.base(5, 5);
        w.close(10, 0, 20, 10);
        due("a VIEW at the edge", 100, w.round(1));
        due("a VIEW inside", NONE, w.round(2));
        due("a VIEW inside, flights", NONE, w.flights(2));
        due("a VIEW inside, energy", NONE, w.energy(2));
        due("one of two is inside", NONE, w.round(3));
        due("one of two is inside, flights", NONE, w.flights(3));
        due("a VIEW at the corner", 142, w.round(4));
        w.base(11, 5);
        due("THE BASE inside", NONE, w.round(1));
        due("THE BASE inside, with a VIEW at it", NONE, w.round(2));
        due("THE BASE inside, flights", NONE, w.flights(2));
        w.open();
        due("open again: a VIEW at THE BASE", 0, w.round(2));
        WingLooks around = new WingLooks();
        around.base(30, 0);
        around.close(28, 10, 32, 40);
        around.view(20, 20);
        around.view(40, 20);
        due("two that don't reach one another have no ROUND", 2, around.flights(3));
        due("but for by way of THE BASE", NONE, around.round(3));
        around.view(30, 45);
        due("one that is reached by way of others alone", 1, around.flights(7));
        due("and not by itself", NONE, around.flights(4));
    }

    private static void fewestThenLeast() {
        says("the fewest FLIGHTS that do it, and the least ENERGY of all FLIGHTS together of so few");
        WingLooks cut = new WingLooks();
        cut.wind(8, -7);
        cut.base(2, 5);
        cut.close(2, 2, 6, 4);
        cut.view(2, 7);
        cut.view(5, 6);
        cut.view(1, 0);
        due("one FLIGHT, though two take less", 1, cut.flights(7));
        due("what the one takes", 191, cut.energy(7));
        cut.store(0, 190);
        due("two, where one is too much", 2, cut.flights(7));
        due("what the two take", 190, cut.energy(7));
        WingLooks pairs = new WingLooks();
        pairs.base(30, 30);
        pairs.view(40, 30);
        pairs.view(20, 30);
        pairs.view(40, 31);
        pairs.view(20, 31);
        pairs.store(0, 410);
        due("of two FLIGHTS", 2, pairs.flights(15));
        due("the least: neighbours together", 422, pairs.energy(15));
        pairs.store(0, 201);
        due("four FLIGHTS where one each would do but for two", NONE, pairs.flights(15));
        pairs.store(0, 202);
        due("one each", 4, pairs.flights(15));
        due("what one each take", 200 + 200 + 202 + 202, pairs.energy(15));
        WingLooks holes = new WingLooks();
        holes.base(30, 30);
        int[][] places = {{40, 30}, {0, 0}, {20, 30}, {60, 0}, {40, 31}, {0, 60}, {20, 31}, {60, 60}, {30, 20},
            {30, 20}};
        for (int[] place : places) {
            holes.view(place[0], place[1]);
        }
        holes.store(0, 250);
        due("a set with holes, energy asked first", 211 + 211 + 200, holes.energy(1 + 4 + 16 + 64 + 512));
        due("a set with holes, flights", 3, holes.flights(1 + 4 + 16 + 64 + 512));
        due("a part of it, energy asked first", 200 + 211, holes.energy(4 + 64 + 512));
    }

    private static void emptySets() {
        says("NONE: .. or the set is empty; (0: it is empty)");
        WingLooks w = new WingLooks();
        for (int times = 0; times < 2; times++) {
            due("round", NONE, w.round(0));
            due("stop", NONE, w.stop(0, 0));
            due("flights", 0, w.flights(0));
            due("energy", 0, w.energy(0));
            w.view(60, 60);
            w.store(0, 1);
            w.close(0, 0, 60, 60);
        }
        due("a set that can't be flown", NONE, w.flights(1));
        due("flights of the empty one behind it", 0, w.flights(0));
        due("energy of the empty one behind it", 0, w.energy(0));
    }

    private static void largestSet() {
        says("VIEWS .. (10 at most): FLIGHTS and a ROUND of all ten");
        WingLooks w = new WingLooks();
        w.wind(-9, -9);
        w.store(1, 500);
        for (int i = 0; i < 10; i++) {
            w.view(60, 60);
        }
        int out = 849 + 108;
        w.store(0, 30000);
        due("one for all", 1, w.flights(1023));
        due("one for all, energy", out + 849 + 10 * 500, w.energy(1023));
        w.store(0, out + 849 + 10 * 500 - 1);
        due("two for all", 2, w.flights(1023));
        due("two for all, energy", 2 * (out + 849) + 10 * 500, w.energy(1023));
        w.store(0, out + 849 + 500);
        due("one for each", 10, w.flights(1023));
        due("one for each, energy", 10 * (out + 849 + 500), w.energy(1023));
        w.store(0, out + 849 + 499);
        due("none for any", NONE, w.flights(1023));
        WingLooks row = new WingLooks();
        for (int i = 0; i < 10; i++) {
            row.view(6 * (10 - i), 0);
        }
        due("a row out and back", 1200, row.round(1023));
        due("its tenth place", 9, row.stop(1023, 9));
        due("no eleventh place", NONE, row.stop(1023, 10));
    }

    private static void roundWhateverTheBattery() {
        says("as a FLIGHT, whatever THE BATTERY is");
        WingLooks w = new WingLooks();
        w.view(60, 60);
        w.store(0, 1);
        due("the ROUND with a BATTERY of 1", 1698, w.round(1));
        due("its place", 0, w.stop(1, 0));
        due("no FLIGHT with it", NONE, w.flights(1));
        w.store(0, 30000);
        due("the ROUND with a BATTERY of 30000", 1698, w.round(1));
    }

    private static void likeRoundsTheFirst() {
        says("of like ones the first by VIEWS (compared place by place)");
        WingLooks same = new WingLooks();
        for (int i = 0; i < 10; i++) {
            same.view(7, 7);
        }
        for (int place = 0; place < 10; place++) {
            due("ten at one POINT, place " + place, place, same.stop(1023, place));
        }
        due("of 0, 2 and 9 the second", 2, same.stop(1 + 4 + 512, 1));
        WingLooks square = new WingLooks();
        square.base(30, 30);
        square.view(30, 40);
        square.view(20, 30);
        square.view(40, 30);
        int[] want = {1, 0, 2};
        for (int place = 0; place < 3; place++) {
            due("either way round, place " + place, want[place], square.stop(7, place));
        }
        square.wind(-1, 0);
        for (int place = 0; place < 3; place++) {
            due("with a WIND that both have, place " + place, want[place], square.stop(7, place));
        }
        WingLooks row = new WingLooks();
        row.view(30, 0);
        row.view(10, 0);
        row.view(20, 0);
        due("a row out and back", 600, row.round(7));
        due("any order but 0, 1, 2 and 2, 1, 0 takes as little, place 0", 0, row.stop(7, 0));
        due("so 2 comes next", 2, row.stop(7, 1));
        due("and 1 last", 1, row.stop(7, 2));
    }

    private static void placesOfARound() {
        says("The VIEW at a place of THE ROUND; NONE.");
        WingLooks w = new WingLooks();
        w.view(10, 0);
        w.view(20, 0);
        w.view(30, 0);
        due("place -1", NONE, w.stop(5, -1));
        due("place 0", 0, w.stop(5, 0));
        due("place 1", 2, w.stop(5, 1));
        due("place 2 of two", NONE, w.stop(5, 2));
        due("place 2 of three", 2, w.stop(7, 2));
        due("place 3 of three", NONE, w.stop(7, 3));
        due("the least place there is", NONE, w.stop(7, Integer.MIN_VALUE));
        due("the greatest place there is", NONE, w.stop(7, Integer.MAX_VALUE));
        w.close(5, 0, 6, 1);
        due("along the edge", 0, w.stop(7, 0));
        w.close(20, 0, 60, 60);
        w.base(25, 30);
        due("no ROUND, no place", NONE, w.stop(7, 0));
    }

    // ---- logs

    private static void logsAreTwenty() {
        says("LOGS 0, 1, .. (20 at most)");
        WingLooks w = flatPanel();
        for (int i = 0; i < 20; i++) {
            due("log", i, w.log(30, 20, 0));
            due("count", i + 1, w.count(3));
            due("the last one is known", 1, w.proves(i, 0));
            due("the next one is not", UNKNOWN, w.proves(i + 1, 0));
        }
        due("a 21st", FULL, w.log(30, 20, 0));
        due("count", 20, w.count(3));
    }

    private static void endsOfALog() {
        says("a POINT, give or take e (0 .. 5)");
        WingLooks w = flatPanel();
        due("e -1", BAD, w.log(30, 20, -1));
        due("e 6", BAD, w.log(30, 20, 6));
        for (int e = 0; e <= 5; e++) {
            due("e " + e, e, w.log(30, 11 + e, e));
        }
        w.eye(1, 0);
        for (int e = 0; e <= 5; e++) {
            due("one above the line with e " + e, 1, w.proves(e, 0));
            w.log(30, 10 + e, e);
            due("down to the line with e " + e, 0, w.proves(6 + e, 0));
        }
    }

    /** A LOG at 30, 20 give or take 5, and one other PANEL that hides at most one corner. */
    private static int provesPast(int x1, int y1, int x2, int y2) {
        WingLooks w = flatPanel();
        w.panel(x1, y1, x2, y2);
        w.log(30, 20, 5);
        return w.proves(0, 0);
    }

    private static void allFourCorners() {
        says("if it is SEEN from all four corners of the square about it");
        due("none is hidden", 1, provesPast(0, 0, 0, 1));
        due("the lower left one is hidden", 0, provesPast(24, 15, 25, 15));
        due("the lower left one is missed", 1, provesPast(23, 15, 24, 15));
        due("the lower right one is hidden", 0, provesPast(35, 15, 36, 15));
        due("the lower right one is missed", 1, provesPast(36, 15, 37, 15));
        due("the upper left one is hidden", 0, provesPast(24, 25, 25, 25));
        due("the upper left one is missed", 1, provesPast(23, 25, 24, 25));
        due("the upper right one is hidden", 0, provesPast(35, 25, 36, 25));
        due("the upper right one is missed", 1, provesPast(36, 25, 37, 25));
        due("between the corners nothing is hidden", 1, provesPast(30, 16, 30, 24));
        WingLooks slanting = flatPanel();
        slanting.log(30, 15, 5);
        slanting.log(30, 18, 4);
        slanting.eye(1, 50);
        due("the lower corners are on the line", 0, slanting.proves(0, 0));
        due("the lower corners just at SLANT 50", 1, slanting.proves(1, 0));
        slanting.eye(1, 51);
        due("the lower corners below SLANT 51", 0, slanting.proves(1, 0));
    }

    private static void cornersOnTheLine() {
        says("(not on its line), for the corners of a LOG");
        for (int[] way : new int[][] {{1, 0}, {0, 1}, {-1, 0}, {0, -1}}) {
            WingLooks w = new WingLooks();
            w.eye(1, 0);
            w.panel(30 - 9 * way[0], 30 - 9 * way[1], 30 + 9 * way[0], 30 + 9 * way[1]);
            w.log(30 - 5 * way[1], 30 + 5 * way[0], 5);
            w.log(30 - 5 * way[1], 30 + 5 * way[0], 4);
            due("corners on the line", 0, w.proves(0, 0));
            due("corners one to the left", 1, w.proves(1, 0));
        }
    }

    private static void cornersNeedBeNoPoints() {
        says("(places that need be no POINTS)");
        beyondTheField("left", new int[] {10, 20, 10, 40}, 0, 30);
        beyondTheField("right", new int[] {50, 40, 50, 20}, 60, 30);
        beyondTheField("lower", new int[] {40, 10, 20, 10}, 30, 0);
        beyondTheField("upper", new int[] {20, 50, 40, 50}, 30, 60);
    }

    /** A PANEL 10 away from an edge of the field, its skin towards it, and a LOG on the edge, give or take 5. */
    private static void beyondTheField(String edge, int[] ends, int x, int y) {
        WingLooks w = new WingLooks();
        w.panel(ends[0], ends[1], ends[2], ends[3]);
        w.log(x, y, 5);
        due("beyond the " + edge + " edge", 1, w.proves(0, 0));
        w.eye(0, 16);
        due("15 and 5 away is within 16, beyond the " + edge + " edge", 1, w.proves(0, 0));
        w.eye(0, 15);
        due("15 and 5 away is farther than 15, beyond the " + edge + " edge", 0, w.proves(0, 0));
        WingLooks back = new WingLooks();
        back.panel(ends[2], ends[3], ends[0], ends[1]);
        back.log(x, y, 5);
        due("the back, beyond the " + edge + " edge", 0, back.proves(0, 0));
    }

    private static void farthestCorner() {
        says("M is no farther from V than RANGE, for the corners of a LOG");
        WingLooks w = flatPanel();
        w.log(30, 26, 4);
        w.log(30, 45, 5);
        w.eye(0, 20);
        due("4 and 20 away is farther than 20", 0, w.proves(0, 0));
        w.eye(0, 21);
        due("4 and 20 away is within 21", 1, w.proves(0, 0));
        w.eye(0, 40);
        due("5 and 40 away is farther than 40", 0, w.proves(1, 0));
        w.eye(0, 41);
        due("5 and 40 away is within 41", 1, w.proves(1, 0));
        WingLooks triple = flatPanel();
        triple.log(30, 17, 5);
        triple.eye(1, 0);
        triple.eye(0, 13);
        due("5 and 12 away is as far as 13", 1, triple.proves(0, 0));
        triple.eye(0, 12);
        due("5 and 12 away is farther than 12", 0, triple.proves(0, 0));
    }

    private static void provedByAllLogs() {
        says("How many LOGS PROVE a PANEL.");
        WingLooks w = flatPanel();
        due("without LOGS", 0, w.proved(0));
        for (int i = 1; i <= 20; i++) {
            w.log(30, 20, 0);
            due("by " + i, i, w.proved(0));
        }
        WingLooks some = flatPanel();
        for (int i = 0; i < 20; i++) {
            some.log(30, i % 2 == 0 ? 0 : 20, 0);
        }
        due("each other one of 20", 10, some.proved(0));
    }

    private static void fewerThanK() {
        says("The i-th PANEL that fewer than k (1 .. 3) LOGS PROVE");
        WingLooks w = flatPanel();
        for (int logs = 0; logs <= 4; logs++) {
            for (int k = 1; k <= 3; k++) {
                due("k " + k + " with " + logs, logs < k ? 0 : NONE, w.missing(0, k));
            }
            due("k 0", BAD, w.missing(0, 0));
            due("k 4", BAD, w.missing(0, 4));
            w.log(30, 20, 0);
        }
    }

    private static void ithMissing() {
        says("The i-th PANEL ..; NONE.");
        WingLooks w = twelvePanels();
        w.eye(0, 5);
        for (int i = 0; i < 12; i++) {
            due("of twelve", i, w.missing(i, 1));
        }
        due("beyond the twelfth", NONE, w.missing(12, 1));
        due("below the first", NONE, w.missing(-1, 1));
        w.log(1, 11, 0);
        w.log(56, 11, 0);
        due("the first is proved", 1, w.missing(0, 1));
        due("the tenth of ten", 10, w.missing(9, 1));
        due("the last is proved", NONE, w.missing(10, 1));
        due("twice all are missing", 11, w.missing(11, 2));
        due("the least i there is", NONE, w.missing(Integer.MIN_VALUE, 1));
        due("the greatest i there is", NONE, w.missing(Integer.MAX_VALUE, 1));
    }

    // ---- marks

    private static void marksAreForty() {
        says("MARKS 0, 1, .. (40 at most)");
        WingLooks w = flatPanel();
        for (int i = 0; i < 40; i++) {
            due("the next one is not known", UNKNOWN, w.wipe(i));
            due("mark", i, w.mark(0, 0, 0, 0));
            due("count", i + 1, w.count(4));
        }
        due("a 41st", FULL, w.mark(0, 0, 0, 0));
        due("count", 40, w.count(4));
        due("the 41st is not known", UNKNOWN, w.wipe(40));
        due("the last one is known", 1, w.wipe(39));
    }

    private static void takenAwayForGood() {
        says("A MARK is taken away for good (its number stays its own)");
        WingLooks w = flatPanel();
        for (int i = 0; i < 40; i++) {
            w.mark(0, 10 * i, 1, i % 2);
        }
        due("the first", 1, w.wipe(0));
        due("the first again", STATE, w.wipe(0));
        due("the last", 1, w.wipe(39));
        due("the last again", STATE, w.wipe(39));
        due("MARKS that are there", 38, w.count(4));
        due("its number is not given again", FULL, w.mark(0, 0, 0, 0));
        due("MARKS of its YEAR", 19, w.marks(0, 0, false));
        due("pairs", 19, w.match(0, 0, 1, 10, false));
        for (int i = 1; i < 39; i++) {
            due("all others", 1, w.wipe(i));
        }
        due("none is there", 0, w.count(4));
        due("no pairs", 0, w.match(0, 0, 1, 1000, false));
        due("no LENGTHS", 0, w.marks(0, 1, true));
        WingLooks next = flatPanel();
        next.mark(0, 0, 0, 0);
        next.wipe(0);
        due("the next MARK has the next number", 1, next.mark(0, 0, 0, 0));
        due("the wiped one stays wiped", STATE, next.wipe(0));
    }

    /** The least and the greatest value that are allowed, and those beyond them. */
    private static void bounds(String what, int least, int greatest, IntUnaryOperator call) {
        due(what + " " + (least - 1), BAD, call.applyAsInt(least - 1));
        due(what + " " + (greatest + 1), BAD, call.applyAsInt(greatest + 1));
        due(what + " at its least", 0, call.applyAsInt(least) < 0 ? 1 : 0);
        due(what + " at its greatest", 0, call.applyAsInt(greatest) < 0 ? 1 : 0);
    }

    private static void placeLengthAndYear() {
        says("at a place (0 .. 1000), have a LENGTH (0 .. 500) and a YEAR (0 .. 9); a tolerance (0 .. 1000)");
        WingLooks w = flatPanel();
        bounds("place", 0, 1000, v -> w.mark(0, v, 0, 0));
        bounds("LENGTH", 0, 500, v -> w.mark(0, 0, v, 0));
        bounds("YEAR of a MARK", 0, 9, v -> w.mark(0, 0, 0, v));
        bounds("YEAR of marks", 0, 9, v -> w.marks(0, v, true));
        bounds("the one YEAR", 0, 9, v -> w.match(0, v, 5, 0, true));
        bounds("the other YEAR", 0, 9, v -> w.match(0, 5, v, 0, true));
        bounds("tolerance", 0, 1000, v -> w.match(0, 4, 5, v, true));
        bounds("what is counted", 0, 4, w::count);
    }

    private static void lengthsTogether() {
        says("How many MARKS a PANEL has in a YEAR (LENGTHS: all their LENGTHS together)");
        WingLooks w = twelvePanels();
        due("none", 0, w.marks(0, 0, false));
        due("none, LENGTHS", 0, w.marks(0, 0, true));
        w.mark(11, 0, 0, 9);
        due("one without LENGTH", 1, w.marks(11, 9, false));
        due("one without LENGTH, LENGTHS", 0, w.marks(11, 9, true));
        for (int i = 1; i < 40; i++) {
            w.mark(11, 1000, 500, 9);
        }
        due("forty", 40, w.marks(11, 9, false));
        due("forty, LENGTHS", 39 * 500, w.marks(11, 9, true));
        due("the PANEL before", 0, w.marks(10, 9, false));
        due("the YEAR before", 0, w.marks(11, 8, false));
    }

    private static WingLooks years(int[] one, int[] other) {
        WingLooks w = flatPanel();
        for (int at : one) {
            w.mark(0, at, 0, 0);
        }
        for (int at : other) {
            w.mark(0, at, 0, 9);
        }
        return w;
    }

    private static void matches(int[] one, int[] other, int tolerance, int pairs, int drift) {
        WingLooks w = years(one, other);
        String what = one.length + " and " + other.length + " by " + tolerance;
        due(what + ", pairs", pairs, w.match(0, 0, 9, tolerance, false));
        due(what + ", DRIFT", drift, w.match(0, 0, 9, tolerance, true));
        due(what + ", pairs back", pairs, w.match(0, 9, 0, tolerance, false));
        due(what + ", DRIFT back", drift, w.match(0, 9, 0, tolerance, true));
    }

    private static void atMostSoFarApart() {
        says("places at most so far apart");
        for (int apart : new int[] {0, 1, 500, 999, 1000}) {
            matches(new int[] {0}, new int[] {apart}, apart, 1, apart);
            matches(new int[] {1000}, new int[] {1000 - apart}, apart, 1, apart);
            if (apart > 0) {
                matches(new int[] {0}, new int[] {apart}, apart - 1, 0, 0);
            }
        }
    }

    private static void asManyAsCanBe() {
        says("as many as can be");
        matches(new int[] {}, new int[] {}, 1000, 0, 0);
        matches(new int[] {500}, new int[] {}, 1000, 0, 0);
        matches(new int[] {10, 20}, new int[] {20, 30}, 10, 2, 20);
        matches(new int[] {10, 20}, new int[] {20, 30}, 9, 1, 0);
        matches(new int[] {30, 20, 10}, new int[] {0, 10, 20}, 10, 3, 30);
        int[] low = new int[20];
        int[] high = new int[20];
        for (int i = 0; i < 20; i++) {
            high[i] = 1000;
        }
        matches(low, high, 1000, 20, 20000);
        matches(low, high, 999, 0, 0);
        matches(new int[39], new int[] {3}, 1000, 1, 3);
        matches(new int[40], new int[] {}, 1000, 0, 0);
    }

    private static void leastSumOfThese() {
        says("of these with the least sum of how far their places are apart, THE DRIFT");
        matches(new int[] {100}, new int[] {90, 105, 111}, 1000, 1, 5);
        matches(new int[] {100, 200}, new int[] {199, 101}, 1000, 2, 2);
        matches(new int[] {0, 10}, new int[] {10, 11}, 1000, 2, 11);
        matches(new int[] {0, 100}, new int[] {99}, 99, 1, 1);
        matches(new int[] {0, 100}, new int[] {99, 199}, 99, 2, 198);
    }

    private static void noMarkInTwo() {
        says("no MARK in two");
        matches(new int[] {5}, new int[] {5, 5, 5}, 1000, 1, 0);
        matches(new int[] {5, 5, 5}, new int[] {5, 6}, 1000, 2, 1);
        matches(new int[] {4, 5, 6}, new int[] {5, 5}, 1, 2, 1);
    }

    private static void yearsBothWays() {
        says("STATE: both YEARS are one; a MARK of the one and a MARK of the other one");
        WingLooks w = years(new int[] {1, 2}, new int[] {3});
        for (int year = 0; year <= 9; year++) {
            due("year " + year + " twice", STATE, w.match(0, year, year, 1000, false));
        }
        due("0 and 9", 1, w.match(0, 0, 9, 1000, false));
        due("0 and 8", 0, w.match(0, 0, 8, 1000, false));
        due("1 and 9", 0, w.match(0, 1, 9, 1000, false));
    }

    private static void countsOfAll() {
        says("0 PANELS, 1 VIEWS, 2 CLOSED places, 3 LOGS, 4 MARKS that are there");
        WingLooks w = new WingLooks();
        int[] most = {12, 10, 4, 20, 40};
        for (int i = 0; i < 40; i++) {
            w.panel(0, 0, 1, 0);
            w.view(0, 0);
            w.close(0, 0, 1, 1);
            w.log(0, 0, 0);
            w.mark(0, 0, 0, 0);
            for (int what = 0; what <= 4; what++) {
                due("count " + what + " of " + (i + 1), Math.min(i + 1, most[what]), w.count(what));
            }
        }
        due("-1", BAD, w.count(-1));
        due("5", BAD, w.count(5));
    }

    private static void lastCallOfAll() {
        says("An object is used for at most 512 calls after it has been made");
        WingLooks w = tenOfEach();
        int calls = 21;
        int hover = 0;
        // HOVER differs each time, so that no answer can be one of before.
        while (calls + 5 <= CALLS - 3) {
            due("store", hover, w.store(1, hover + 3));
            hover += 3;
            due("round", 222 + hover, w.round(1));
            due("stop", 0, w.stop(1, 0));
            due("cover", 1023, w.cover(1));
            due("times", 1, w.times(1023));
            calls += 5;
        }
        while (calls < CALLS - 3) {
            due("count", 10, w.count(0));
            calls++;
        }
        due("the 510th call", hover, w.store(1, 0));
        due("the 511th call", 222, w.round(1));
        due("the 512th call", 1023, w.cover(1));
    }
}
