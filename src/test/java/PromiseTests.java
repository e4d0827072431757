import java.lang.reflect.Constructor;
import java.lang.reflect.Field;
import java.lang.reflect.Method;
import java.lang.reflect.Modifier;
import java.util.ArrayList;
import java.util.Arrays;
import java.util.Collections;
import java.util.List;

/** Each promise of the document by itself: ordinary inputs, edges, wrong inputs, and the order of refusals. */
public final class PromiseTests {
    private static final int UNKNOWN = -1, BAD = -2, STATE = -3, FULL = -4, NONE = -9;
    private static final int[] WILD =
        {Integer.MIN_VALUE, Integer.MIN_VALUE + 1, -1001, -61, -10, -1, Integer.MAX_VALUE};
    private static int wrong = 0;
    private static int checked = 0;

    private static void due(String what, long want, long got) {
        checked++;
        if (want != got) {
            wrong++;
            System.out.println(what + ": answered " + got + ", due is " + want);
        }
    }

    public static void main(String[] args) {
        theFace();
        promise1NewObject();
        promise2Panel();
        promise3Eye();
        promise4View();
        promise5SeenSide();
        promise5SeenRange();
        promise5SeenSlant();
        promise5SeenPastOthers();
        promise5SeenRefusals();
        promise6Sees();
        promise7Cover();
        promise8Covers();
        promise9Times();
        promise10Close();
        promise11Open();
        promise12Wind();
        promise13Base();
        promise14Store();
        promise15LegEnergy();
        promise15LegShut();
        promise16Round();
        promise17Stop();
        promise18Flights();
        promise19Energy();
        routesFollowEveryChange();
        promise20Log();
        promise21Proves();
        promise22Proved();
        promise23Missing();
        promise24Mark();
        promise25Wipe();
        promise26Marks();
        promise27Match();
        promise28Count();
        refusedChangesNothing();
        System.out.println("PromiseTests: " + checked + " answers looked at, " + wrong + " not as due");
        if (wrong != 0) {
            System.exit(1);
        }
    }

    private static void theFace() {
        due("UNKNOWN", UNKNOWN, WingLooks.UNKNOWN);
        due("BAD", BAD, WingLooks.BAD);
        due("STATE", STATE, WingLooks.STATE);
        due("FULL", FULL, WingLooks.FULL);
        due("NONE", NONE, WingLooks.NONE);
        List<String> names = new ArrayList<>();
        for (Method m : WingLooks.class.getDeclaredMethods()) {
            if (Modifier.isPublic(m.getModifiers())) {
                names.add(m.getName());
            }
            due("not private, not public: " + m, 1,
                Modifier.isPublic(m.getModifiers()) != Modifier.isPrivate(m.getModifiers()) ? 1 : 0);
        }
        Collections.sort(names);
        String want = "[base, close, count, cover, covers, energy, eye, flights, leg, log, mark, marks, match, missing,"
            + " open, panel, proved, proves, round, seen, sees, stop, store, times, view, wind, wipe]";
        due("public methods " + names, 1, want.equals(names.toString()) ? 1 : 0);
        for (Field f : WingLooks.class.getDeclaredFields()) {
            boolean constant = Arrays.asList("UNKNOWN", "BAD", "STATE", "FULL", "NONE").contains(f.getName());
            due("field " + f, 1, constant == Modifier.isPublic(f.getModifiers())
                && constant != Modifier.isPrivate(f.getModifiers()) ? 1 : 0);
        }
        Constructor<?>[] made = WingLooks.class.getDeclaredConstructors();
        due("constructors", 1, made.length == 1 && Modifier.isPublic(made[0].getModifiers()) ? 1 : 0);
        due("final", 1, Modifier.isFinal(WingLooks.class.getModifiers()) ? 1 : 0);
    }

    private static void promise1NewObject() {
        WingLooks w = new WingLooks();
        for (int what = 0; what < 5; what++) {
            due("new: count " + what, 0, w.count(what));
        }
        due("new: seen", UNKNOWN, w.seen(0, 0, 0));
        due("new: sees", UNKNOWN, w.sees(0));
        due("new: cover", 0, w.cover(3));
        due("new: covers", 1, w.covers(0, 3));
        due("new: times", NONE, w.times(0));
        due("new: open", STATE, w.open());
        due("new: round", NONE, w.round(0));
        due("new: stop", NONE, w.stop(0, 0));
        due("new: flights", 0, w.flights(0));
        due("new: energy", 0, w.energy(0));
        due("new: proves", UNKNOWN, w.proves(0, 0));
        due("new: proved", UNKNOWN, w.proved(0));
        due("new: missing", NONE, w.missing(0, 1));
        due("new: wipe", UNKNOWN, w.wipe(0));
        due("new: marks", UNKNOWN, w.marks(0, 0, true));
        due("new: match", UNKNOWN, w.match(0, 0, 1, 0, true));
        due("new: range", 30, w.eye(0, 30));
        due("new: slant", 25, w.eye(1, 25));
        due("new: wind", 909, w.wind(0, 0));
        due("new: base", 0, w.base(0, 0));
        due("new: battery", 1000, w.store(0, 1000));
        due("new: hover", 0, w.store(1, 0));
        WingLooks other = new WingLooks();
        w.panel(0, 0, 1, 1);
        due("another object is another one", 0, other.count(0));
    }

    private static void promise2Panel() {
        WingLooks w = new WingLooks();
        due("panel over all", 0, w.panel(0, 0, 60, 60));
        due("panel back", 1, w.panel(60, 60, 0, 0));
        due("panel like an old one", 2, w.panel(0, 0, 60, 60));
        for (int v : new int[] {-1, 61, Integer.MIN_VALUE, Integer.MAX_VALUE}) {
            due("panel x1 " + v, BAD, w.panel(v, 0, 1, 1));
            due("panel y1 " + v, BAD, w.panel(0, v, 1, 1));
            due("panel x2 " + v, BAD, w.panel(0, 0, v, 1));
            due("panel y2 " + v, BAD, w.panel(0, 0, 1, v));
            due("panel BAD ahead of STATE", BAD, w.panel(v, v, v, v));
        }
        due("panel STATE", STATE, w.panel(7, 8, 7, 8));
        due("panel like x alone", 3, w.panel(7, 8, 7, 9));
        due("panel like y alone", 4, w.panel(7, 8, 6, 8));
        for (int i = 5; i < 12; i++) {
            due("panel " + i, i, w.panel(i, 0, i, 1));
        }
        due("panel FULL", FULL, w.panel(0, 0, 1, 0));
        due("panel STATE ahead of FULL", STATE, w.panel(3, 3, 3, 3));
        due("panel BAD ahead of FULL", BAD, w.panel(-1, 3, 3, 3));
        due("panel count", 12, w.count(0));
    }

    private static void promise3Eye() {
        WingLooks w = new WingLooks();
        due("range least", 30, w.eye(0, 1));
        due("range most", 1, w.eye(0, 90));
        due("range 0", BAD, w.eye(0, 0));
        due("range 91", BAD, w.eye(0, 91));
        due("range stays", 90, w.eye(0, 30));
        due("slant least", 25, w.eye(1, 0));
        due("slant most", 0, w.eye(1, 100));
        due("slant -1", BAD, w.eye(1, -1));
        due("slant 101", BAD, w.eye(1, 101));
        due("slant stays", 100, w.eye(1, 25));
        due("eye what 2", BAD, w.eye(2, 5));
        due("eye what -1", BAD, w.eye(-1, 5));
        for (int v : WILD) {
            due("eye what " + v, BAD, w.eye(v, 5));
            due("eye range " + v, BAD, w.eye(0, v));
            due("eye slant " + v, BAD, w.eye(1, v));
        }
    }

    private static void promise4View() {
        WingLooks w = new WingLooks();
        due("view -1", BAD, w.view(-1, 0));
        due("view 61", BAD, w.view(0, 61));
        due("view 61 x", BAD, w.view(61, 0));
        due("view -1 y", BAD, w.view(0, -1));
        due("view 0", 0, w.view(0, 60));
        due("view 1, the same POINT", 1, w.view(0, 60));
        for (int i = 2; i < 10; i++) {
            due("view " + i, i, w.view(60, i));
        }
        due("view FULL", FULL, w.view(1, 1));
        due("view BAD ahead of FULL", BAD, w.view(1, 61));
        due("view count", 10, w.count(1));
    }

    private static void promise5SeenSide() {
        WingLooks w = new WingLooks();
        w.panel(10, 10, 20, 10);
        due("left", 1, w.seen(15, 15, 0));
        due("right", 0, w.seen(15, 5, 0));
        w.eye(1, 0);
        due("on the line, ahead", 0, w.seen(30, 10, 0));
        due("on the line, behind", 0, w.seen(0, 10, 0));
        due("on the PANEL", 0, w.seen(12, 10, 0));
        due("in the MIDDLE", 0, w.seen(15, 10, 0));
        due("just left", 1, w.seen(30, 11, 0));
        WingLooks up = new WingLooks();
        up.panel(30, 10, 30, 20);
        due("up: left is the lesser x", 1, up.seen(25, 15, 0));
        due("up: right is the greater x", 0, up.seen(35, 15, 0));
        WingLooks odd = new WingLooks();
        odd.panel(10, 10, 13, 11);
        odd.eye(1, 0);
        due("askew, left", 1, odd.seen(10, 11, 0));
        due("askew, right", 0, odd.seen(12, 10, 0));
    }

    private static void promise5SeenRange() {
        WingLooks w = new WingLooks();
        w.panel(10, 10, 20, 10);
        due("30 off", 1, w.seen(15, 40, 0));
        due("31 off", 0, w.seen(15, 41, 0));
        w.eye(1, 0);
        w.eye(0, 5);
        due("3, 4, 5", 1, w.seen(18, 14, 0));
        due("4, 4", 0, w.seen(19, 14, 0));
        WingLooks half = new WingLooks();
        half.panel(10, 10, 11, 10);
        half.eye(1, 0);
        half.eye(0, 1);
        due("MIDDLE at a half: 0.5, 1 is beyond 1", 0, half.seen(10, 11, 0));
        half.eye(0, 2);
        due("MIDDLE at a half: 0.5, 1 is within 2", 1, half.seen(10, 11, 0));
        due("MIDDLE at a half: 1.5, 1 is within 2", 1, half.seen(12, 11, 0));
        due("MIDDLE at a half: 0.5, 2 is beyond 2", 0, half.seen(11, 12, 0));
        WingLooks wide = new WingLooks();
        wide.panel(0, 0, 2, 0);
        wide.eye(0, 90);
        wide.eye(1, 0);
        due("far corner", 1, wide.seen(60, 60, 0));
    }

    private static void promise5SeenSlant() {
        WingLooks w = new WingLooks();
        w.panel(10, 10, 20, 10);
        w.eye(1, 50);
        due("45 degrees is 50", 1, w.seen(25, 20, 0));
        due("a bit flatter", 0, w.seen(26, 20, 0));
        due("45 degrees on the other hand", 1, w.seen(5, 20, 0));
        w.eye(1, 51);
        due("45 degrees is not 51", 0, w.seen(25, 20, 0));
        w.eye(1, 100);
        due("straight above", 1, w.seen(15, 39, 0));
        due("not quite straight above", 0, w.seen(16, 39, 0));
        w.eye(1, 90);
        due("1 by 3 is 90", 1, w.seen(16, 13, 0));
        w.eye(1, 91);
        due("1 by 3 is not 91", 0, w.seen(16, 13, 0));
        w.eye(0, 90);
        w.eye(1, 0);
        due("flat is enough for 0", 1, w.seen(60, 11, 0));
        WingLooks big = new WingLooks();
        big.panel(0, 60, 60, 0);
        big.eye(0, 90);
        big.eye(1, 100);
        due("large numbers", 1, big.seen(60, 60, 0));
        due("large numbers, askew", 0, big.seen(60, 59, 0));
    }

    private static void promise5SeenPastOthers() {
        due("across the way", 0, seenPast(14, 15, 16, 15));
        due("across the way the other way round", 0, seenPast(16, 15, 14, 15));
        due("its start on the way", 0, seenPast(15, 15, 20, 17));
        due("its end on the way", 0, seenPast(20, 17, 15, 15));
        due("beside the way", 1, seenPast(16, 15, 20, 15));
        due("along the way", 0, seenPast(15, 12, 15, 18));
        due("along the way, out of it", 0, seenPast(15, 5, 15, 12));
        due("on the way's line, behind V", 1, seenPast(15, 21, 15, 30));
        due("on the way's line, behind M", 1, seenPast(15, 9, 15, 0));
        due("touches V", 0, seenPast(15, 20, 15, 30));
        due("touches V from the side", 0, seenPast(10, 20, 15, 20));
        due("touches M", 0, seenPast(15, 10, 15, 0));
        due("through M", 0, seenPast(14, 9, 16, 11));
        due("the same place again", 0, seenPast(10, 10, 20, 10));
        due("back to back", 0, seenPast(20, 10, 10, 10));
        due("on its line up to before M", 1, seenPast(10, 10, 14, 10));
        due("on its line up to M", 0, seenPast(10, 10, 15, 10));
        due("joined at its end", 1, seenPast(20, 10, 20, 30));
        due("line across, but short", 1, seenPast(17, 15, 30, 16));
        due("behind its back", 1, seenPast(0, 9, 30, 9));
        WingLooks half = new WingLooks();
        half.panel(10, 10, 21, 10);
        half.panel(15, 10, 15, 30);
        due("MIDDLE at a half beside another", 1, half.seen(16, 20, 0));
        due("way to a half across another", 0, half.seen(14, 20, 0));
    }

    /** From 15, 20 to a PANEL whose MIDDLE is 15, 10, with one other PANEL about. */
    private static int seenPast(int x1, int y1, int x2, int y2) {
        WingLooks w = new WingLooks();
        w.panel(10, 10, 20, 10);
        w.panel(x1, y1, x2, y2);
        return w.seen(15, 20, 0);
    }

    private static void promise5SeenRefusals() {
        WingLooks w = new WingLooks();
        w.panel(10, 10, 20, 10);
        due("seen x -1", BAD, w.seen(-1, 0, 0));
        due("seen y -1", BAD, w.seen(0, -1, 0));
        due("seen x 61", BAD, w.seen(61, 0, 0));
        due("seen y 61", BAD, w.seen(0, 61, 0));
        due("seen panel 1", UNKNOWN, w.seen(0, 0, 1));
        due("seen BAD ahead of UNKNOWN", BAD, w.seen(61, 0, 1));
        for (int v : WILD) {
            due("seen panel " + v, UNKNOWN, w.seen(0, 0, v));
            due("seen x " + v, BAD, w.seen(v, 0, 0));
            due("seen y " + v, BAD, w.seen(0, v, 0));
        }
    }

    /** Three PANELS side by side, looking up. */
    private static WingLooks threePanels() {
        WingLooks w = new WingLooks();
        w.panel(0, 10, 10, 10);
        w.panel(10, 10, 20, 10);
        w.panel(20, 10, 30, 10);
        return w;
    }

    private static void promise6Sees() {
        WingLooks w = threePanels();
        w.view(15, 20);
        w.view(15, 0);
        w.view(0, 15);
        due("sees all", 7, w.sees(0));
        due("sees none", 0, w.sees(1));
        due("sees the near one", 1, w.sees(2));
        w.eye(0, 10);
        due("sees with less RANGE", 2, w.sees(0));
        due("sees 3", UNKNOWN, w.sees(3));
        for (int v : WILD) {
            due("sees " + v, UNKNOWN, w.sees(v));
        }
        WingLooks bare = new WingLooks();
        bare.view(0, 0);
        due("sees without PANELS", 0, bare.sees(0));
    }

    private static void promise7Cover() {
        WingLooks w = threePanels();
        due("cover without VIEWS", NONE, w.cover(1));
        w.eye(0, 8);
        w.view(25, 15);
        w.view(5, 15);
        due("cover not yet", NONE, w.cover(1));
        w.view(15, 15);
        due("cover by three", 7, w.cover(1));
        due("cover twice", NONE, w.cover(2));
        w.view(5, 16);
        w.view(15, 16);
        w.view(25, 16);
        due("the least of like many", 7, w.cover(1));
        due("cover twice by all", 63, w.cover(2));
        due("cover thrice", NONE, w.cover(3));
        w.eye(0, 30);
        due("one is enough", 16, w.cover(1));
        due("three are enough", 25, w.cover(2));
        due("cover 0", BAD, w.cover(0));
        due("cover 4", BAD, w.cover(4));
        for (int v : WILD) {
            due("cover " + v, BAD, w.cover(v));
        }
        WingLooks bare = new WingLooks();
        bare.view(1, 1);
        due("cover without PANELS", 0, bare.cover(1));
        WingLooks fewer = new WingLooks();
        fewer.panel(0, 10, 10, 10);
        fewer.panel(50, 10, 60, 10);
        fewer.view(5, 15);
        fewer.view(55, 15);
        fewer.view(30, 20);
        due("fewest: two small ones", 3, fewer.cover(1));
        fewer.eye(1, 10);
        due("fewest goes ahead of the least number", 4, fewer.cover(1));
    }

    private static void promise8Covers() {
        WingLooks w = threePanels();
        w.view(15, 15);
        w.view(15, 20);
        w.view(15, 0);
        w.eye(1, 10);
        due("covers once", 1, w.covers(1, 1));
        due("covers twice by one", 0, w.covers(1, 2));
        due("covers twice by two", 1, w.covers(3, 2));
        due("covers thrice by three, one blind", 0, w.covers(7, 3));
        due("covers by none", 0, w.covers(0, 1));
        due("covers by a blind one", 0, w.covers(4, 1));
        due("covers set 8", UNKNOWN, w.covers(8, 1));
        due("covers k 0", BAD, w.covers(1, 0));
        due("covers k 4", BAD, w.covers(1, 4));
        due("covers UNKNOWN ahead of BAD", UNKNOWN, w.covers(8, 4));
        for (int v : WILD) {
            due("covers set " + v, UNKNOWN, w.covers(v, 1));
            due("covers k " + v, BAD, w.covers(1, v));
        }
        WingLooks bare = new WingLooks();
        bare.view(0, 0);
        due("covers without PANELS", 1, bare.covers(1, 3));
        due("covers without PANELS by none", 1, bare.covers(0, 3));
        due("covers without PANELS, UNKNOWN", UNKNOWN, bare.covers(2, 3));
    }

    private static void promise9Times() {
        WingLooks w = threePanels();
        for (int i = 0; i < 4; i++) {
            w.view(15, 15 + i);
        }
        w.view(5, 12);
        w.eye(1, 10);
        due("times 0", 0, w.times(0));
        due("times 1", 1, w.times(1));
        due("times 4: no k bounds it", 4, w.times(15));
        due("times: the least of them", 4, w.times(31));
        due("times of one that sees one", 0, w.times(16));
        due("times set 32", UNKNOWN, w.times(32));
        for (int v : WILD) {
            due("times set " + v, UNKNOWN, w.times(v));
        }
        WingLooks bare = new WingLooks();
        bare.view(0, 0);
        due("times without PANELS", NONE, bare.times(1));
        due("times without PANELS by none", NONE, bare.times(0));
        due("times without PANELS, UNKNOWN", UNKNOWN, bare.times(2));
    }

    private static void promise10Close() {
        WingLooks w = new WingLooks();
        for (int v : new int[] {-1, 61, Integer.MIN_VALUE, Integer.MAX_VALUE}) {
            due("close x1 " + v, BAD, w.close(v, 0, 1, 1));
            due("close y1 " + v, BAD, w.close(0, v, 1, 1));
            due("close x2 " + v, BAD, w.close(0, 0, v, 1));
            due("close y2 " + v, BAD, w.close(0, 0, 1, v));
        }
        due("close like x", STATE, w.close(5, 5, 5, 9));
        due("close like y", STATE, w.close(5, 5, 9, 5));
        due("close less x", STATE, w.close(5, 5, 4, 9));
        due("close less y", STATE, w.close(5, 5, 9, 4));
        due("close BAD ahead of STATE", BAD, w.close(5, 5, -1, 9));
        due("close 1", 1, w.close(0, 0, 60, 60));
        due("close 2", 2, w.close(1, 1, 2, 2));
        due("close 3", 3, w.close(1, 1, 2, 2));
        due("close 4", 4, w.close(3, 3, 4, 4));
        due("close FULL", FULL, w.close(1, 1, 2, 2));
        due("close STATE ahead of FULL", STATE, w.close(1, 1, 1, 2));
        due("close BAD ahead of FULL", BAD, w.close(1, 1, 61, 2));
    }

    private static void promise11Open() {
        WingLooks w = new WingLooks();
        due("open none", STATE, w.open());
        w.close(10, 10, 20, 20);
        w.close(30, 10, 40, 20);
        due("the latest one shuts", NONE, w.leg(30, 15, 40, 15));
        due("open", 1, w.open());
        due("the latest one is open", 100, w.leg(30, 15, 40, 15));
        due("the first one is closed", NONE, w.leg(10, 15, 20, 15));
        due("open again", 0, w.open());
        due("the first one is open", 100, w.leg(10, 15, 20, 15));
        due("open none left", STATE, w.open());
        due("close anew", 1, w.close(50, 50, 51, 51));
        due("the new one shuts", NONE, w.leg(50, 50, 51, 51));
        due("the old one does not", 100, w.leg(10, 15, 20, 15));
    }

    private static void promise12Wind() {
        WingLooks w = new WingLooks();
        due("wind at first", 909, w.wind(9, -9));
        due("wind 9, -9", 1800, w.wind(-9, 9));
        due("wind -9, 9", 18, w.wind(-9, -9));
        due("wind -9, -9", 0, w.wind(3, 4));
        due("wind 10", BAD, w.wind(10, 0));
        due("wind -10", BAD, w.wind(-10, 0));
        due("wind y 10", BAD, w.wind(0, 10));
        due("wind y -10", BAD, w.wind(0, -10));
        for (int v : new int[] {11, -11, Integer.MIN_VALUE, Integer.MAX_VALUE}) {
            due("wind x " + v, BAD, w.wind(v, 0));
            due("wind y " + v, BAD, w.wind(0, v));
        }
        due("wind stays", 1213, w.wind(0, 0));
    }

    private static void promise13Base() {
        WingLooks w = new WingLooks();
        due("base at first", 0, w.base(60, 1));
        due("base 60, 1", 6001, w.base(2, 60));
        due("base x 61", BAD, w.base(61, 0));
        due("base y 61", BAD, w.base(0, 61));
        for (int v : WILD) {
            due("base x " + v, BAD, w.base(v, 0));
            due("base y " + v, BAD, w.base(0, v));
        }
        due("base stays", 260, w.base(0, 0));
    }

    private static void promise14Store() {
        WingLooks w = new WingLooks();
        due("battery at first", 1000, w.store(0, 1));
        due("battery 1", 1, w.store(0, 30000));
        due("battery 0", BAD, w.store(0, 0));
        due("battery 30001", BAD, w.store(0, 30001));
        due("battery stays", 30000, w.store(0, 7));
        due("hover at first", 0, w.store(1, 500));
        due("hover 500", 500, w.store(1, 0));
        due("hover -1", BAD, w.store(1, -1));
        due("hover 501", BAD, w.store(1, 501));
        due("hover stays", 0, w.store(1, 3));
        due("battery is not hover", 7, w.store(0, 8));
        due("store 2", BAD, w.store(2, 5));
        for (int v : WILD) {
            due("store what " + v, BAD, w.store(v, 5));
            due("store battery " + v, BAD, w.store(0, v));
            due("store hover " + v, BAD, w.store(1, v));
        }
    }

    private static void promise15LegEnergy() {
        WingLooks w = new WingLooks();
        due("leg of nothing", 0, w.leg(5, 5, 5, 5));
        due("leg 10", 10, w.leg(0, 0, 1, 0));
        due("leg 14.1", 15, w.leg(0, 0, 1, 1));
        due("leg 22.4", 23, w.leg(2, 3, 1, 1));
        due("leg exact", 50, w.leg(7, 7, 3, 4));
        due("leg of all", 849, w.leg(0, 0, 60, 60));
        due("leg of all back", 849, w.leg(60, 60, 0, 0));
        w.wind(1, 0);
        due("wind from behind", 100, w.leg(0, 0, 10, 0));
        due("wind ahead: 10 by 10", 101, w.leg(10, 0, 0, 0));
        due("wind ahead: 9 by 10, cut", 90, w.leg(9, 0, 0, 0));
        due("wind ahead: 19 by 10, cut", 191, w.leg(19, 0, 0, 0));
        due("wind from the side", 100, w.leg(0, 10, 0, 0));
        w.wind(-9, -9);
        due("wind ahead at most", 849 + 108, w.leg(0, 0, 60, 60));
        w.wind(9, -9);
        due("wind x and y even out", 849, w.leg(0, 0, 60, 60));
        w.wind(2, -3);
        due("wind x 2, y -3", 142 + 1, w.leg(0, 0, 10, 10));
        for (int v : new int[] {-1, 61, Integer.MIN_VALUE, Integer.MAX_VALUE}) {
            due("leg x1 " + v, BAD, w.leg(v, 0, 1, 1));
            due("leg y1 " + v, BAD, w.leg(0, v, 1, 1));
            due("leg x2 " + v, BAD, w.leg(0, 0, v, 1));
            due("leg y2 " + v, BAD, w.leg(0, 0, 1, v));
        }
    }

    private static void promise15LegShut() {
        WingLooks w = new WingLooks();
        w.close(10, 10, 20, 20);
        due("through", NONE, w.leg(0, 12, 30, 18));
        due("back through", NONE, w.leg(30, 18, 0, 12));
        due("begins inside", NONE, w.leg(15, 15, 40, 15));
        due("ends inside", NONE, w.leg(40, 15, 15, 15));
        due("all inside", NONE, w.leg(12, 12, 13, 15));
        due("a point inside", NONE, w.leg(11, 19, 11, 19));
        due("a point at the edge", 0, w.leg(10, 15, 10, 15));
        due("a point at a corner", 0, w.leg(20, 20, 20, 20));
        due("a point outside", 0, w.leg(21, 15, 21, 15));
        due("along the left edge", 300, w.leg(10, 0, 10, 30));
        due("along the right edge", 300, w.leg(20, 0, 20, 30));
        due("along the lower edge", 300, w.leg(0, 10, 30, 10));
        due("along the upper edge", 300, w.leg(0, 20, 30, 20));
        due("from edge to edge", NONE, w.leg(10, 15, 20, 15));
        due("from edge to the next edge", NONE, w.leg(10, 15, 15, 10));
        due("from corner to corner", NONE, w.leg(10, 10, 20, 20));
        due("from the other corner to corner", NONE, w.leg(10, 20, 20, 10));
        due("a corner alone, lower left", 283, w.leg(0, 20, 20, 0));
        due("a corner alone, upper right", 283, w.leg(10, 30, 30, 10));
        due("a corner alone, upper left", 283, w.leg(0, 10, 20, 30));
        due("a corner alone, lower right", 283, w.leg(10, 0, 30, 20));
        due("cuts a corner", NONE, w.leg(1, 20, 20, 0));
        due("up to the edge", 100, w.leg(0, 15, 10, 15));
        due("box of the leg meets, the leg does not", 255, w.leg(0, 19, 17, 0));
        w.close(30, 30, 31, 31);
        due("a second place", NONE, w.leg(30, 30, 31, 31));
        due("between two places", 142, w.leg(20, 20, 30, 30));
    }

    /** VIEWS about a BASE in the middle. */
    private static WingLooks fourViews() {
        WingLooks w = new WingLooks();
        w.base(30, 30);
        w.view(40, 30);
        w.view(30, 40);
        w.view(20, 30);
        w.view(30, 20);
        return w;
    }

    private static void promise16Round() {
        WingLooks w = fourViews();
        due("round of one", 200, w.round(1));
        due("round of two", 342, w.round(3));
        due("round across", 400, w.round(5));
        due("round of all", 626, w.round(15));
        due("round of none", NONE, w.round(0));
        due("round 16", UNKNOWN, w.round(16));
        for (int v : WILD) {
            due("round " + v, UNKNOWN, w.round(v));
        }
        w.store(0, 1);
        due("round whatever THE BATTERY is", 626, w.round(15));
        w.store(1, 500);
        due("round with HOVER at each VIEW", 2626, w.round(15));
        w.store(1, 0);
        w.wind(9, 0);
        due("round with wind", 200 + 9, w.round(1));
        due("round with wind, all of it", 626 + 9 + 9, w.round(15));
        w.wind(0, 0);
        w.close(35, 29, 36, 31);
        due("round of one shut off", NONE, w.round(1));
        due("one is reached by way of others", 626, w.round(15));
        due("one is not reached by one other", NONE, w.round(3));
        stopsAre(w, 15, 1, 0, 3, 2);
        w.close(29, 29, 31, 31);
        due("THE BASE is closed in", NONE, w.round(2));
        WingLooks same = new WingLooks();
        same.view(0, 0);
        same.view(0, 0);
        same.view(3, 4);
        due("round of one at THE BASE", 0, same.round(1));
        due("round of two VIEWS at one POINT", 0, same.round(3));
        due("round of three", 100, same.round(7));
    }

    private static void promise17Stop() {
        WingLooks w = fourViews();
        stopsAre(w, 15, 0, 1, 2, 3);
        stopsAre(w, 10, 1, 3);
        stopsAre(w, 8, 3);
        stopsAre(w, 0);
        due("stop 16", UNKNOWN, w.stop(16, 0));
        due("stop -1", UNKNOWN, w.stop(-1, 0));
        for (int v : WILD) {
            due("stop set " + v, UNKNOWN, w.stop(v, 0));
            due("stop place " + v, NONE, w.stop(15, v));
        }
        w.close(35, 29, 36, 31);
        due("stop of no ROUND", NONE, w.stop(1, 0));
        WingLooks row = new WingLooks();
        row.view(30, 0);
        row.view(10, 0);
        row.view(20, 0);
        stopsAre(row, 7, 0, 2, 1);
        row.wind(-9, 0);
        due("wind takes the same on one line", 600 + 27, row.round(7));
        stopsAre(row, 7, 0, 2, 1);
        row.view(20, 10);
        row.wind(0, 0);
        due("round of a row and one above", 300 + 142 + 224, row.round(15));
        stopsAre(row, 15, 1, 2, 0, 3);
        WingLooks same = new WingLooks();
        same.view(5, 5);
        same.view(5, 5);
        same.view(5, 5);
        stopsAre(same, 7, 0, 1, 2);
        stopsAre(same, 6, 1, 2);
    }

    private static void stopsAre(WingLooks w, int set, int... want) {
        due("stop of " + set + " at -1", NONE, w.stop(set, -1));
        for (int place = 0; place < want.length; place++) {
            due("stop of " + set + " at " + place, want[place], w.stop(set, place));
        }
        due("stop of " + set + " at the end", NONE, w.stop(set, want.length));
    }

    private static void promise18Flights() {
        WingLooks w = fourViews();
        flownBy(w, 1000, 15, 1, 626);
        flownBy(w, 626, 15, 1, 626);
        flownBy(w, 625, 15, 2, 684);
        flownBy(w, 484, 15, 2, 684);
        flownBy(w, 342, 15, 2, 684);
        flownBy(w, 341, 15, 4, 800);
        flownBy(w, 200, 15, 4, 800);
        flownBy(w, 199, 15, NONE, NONE);
        flownBy(w, 199, 0, 0, 0);
        due("flights 16", UNKNOWN, w.flights(16));
        for (int v : WILD) {
            due("flights " + v, UNKNOWN, w.flights(v));
        }
        w.store(0, 250);
        w.store(1, 50);
        due("HOVER fits", 4, w.flights(15));
        w.store(1, 51);
        due("HOVER is too much", NONE, w.flights(15));
        w.store(1, 0);
        w.close(35, 29, 36, 31);
        w.store(0, 1000);
        due("one can't be reached alone", NONE, w.flights(1));
        due("nor with one other", NONE, w.flights(3));
        due("but with all others", 1, w.flights(15));
    }

    private static void flownBy(WingLooks w, int battery, int set, int flights, int energy) {
        w.store(0, battery);
        due("flights with " + battery, flights, w.flights(set));
        due("energy with " + battery, energy, w.energy(set));
    }

    private static void promise19Energy() {
        WingLooks w = new WingLooks();
        w.base(30, 30);
        w.view(60, 30);
        w.view(59, 30);
        w.view(0, 30);
        w.view(1, 30);
        flownBy(w, 1200, 15, 1, 1200);
        flownBy(w, 600, 15, 2, 1200);
        flownBy(w, 600, 5, 2, 1200);
        flownBy(w, 599, 15, NONE, NONE);
        flownBy(w, 599, 10, 2, 1160);
        due("energy 16", UNKNOWN, w.energy(16));
        for (int v : WILD) {
            due("energy " + v, UNKNOWN, w.energy(v));
        }
        due("energy of none", 0, w.energy(0));
        WingLooks fewer = new WingLooks();
        fewer.view(0, 10);
        fewer.view(10, 0);
        fewer.wind(0, 0);
        flownBy(fewer, 400, 3, 1, 342);
        WingLooks dear = new WingLooks();
        dear.base(0, 5);
        dear.view(0, 0);
        dear.view(0, 10);
        dear.wind(9, 0);
        flownBy(dear, 200, 3, 1, 200);
        WingLooks around = new WingLooks();
        around.base(30, 0);
        around.close(28, 10, 32, 40);
        around.view(20, 20);
        around.view(40, 20);
        flownBy(around, 1000, 3, 2, 896);
        around.view(30, 45);
        flownBy(around, 988, 7, 1, 988);
        flownBy(around, 987, 7, NONE, NONE);
        WingLooks cut = new WingLooks();
        cut.wind(8, -7);
        cut.base(2, 5);
        cut.close(2, 2, 6, 4);
        cut.view(2, 7);
        cut.view(5, 6);
        cut.view(1, 0);
        // Two FLIGHTS would take 190 here, since more is cut off from the WIND's part.
        flownBy(cut, 1000, 7, 1, 191);
        flownBy(cut, 190, 7, 2, 190);
        WingLooks ten = new WingLooks();
        ten.base(0, 0);
        for (int i = 0; i < 10; i++) {
            ten.view(60, 60);
        }
        ten.store(1, 500);
        ten.wind(-9, -9);
        flownBy(ten, 849 + 849 + 108 + 500, 1023, 10, 10 * (849 + 849 + 108 + 500));
        flownBy(ten, 30000, 1023, 1, 849 + 849 + 108 + 5000);
    }

    /** Whatever is kept between calls must not outlive what it was made of. */
    private static void routesFollowEveryChange() {
        WingLooks w = fourViews();
        due("first", 626, w.round(15));
        due("first energy", 626, w.energy(15));
        w.base(40, 30);
        due("after base", 568, w.round(15));
        due("after base, energy", 568, w.energy(15));
        w.base(30, 30);
        w.store(1, 7);
        due("after hover", 654, w.round(15));
        due("after hover, energy", 654, w.energy(15));
        w.store(1, 0);
        w.store(0, 400);
        due("after battery", 2, w.flights(15));
        w.store(0, 1000);
        due("after battery again", 1, w.flights(15));
        w.close(0, 0, 60, 60);
        due("after close", NONE, w.round(15));
        due("after close, flights", NONE, w.flights(15));
        w.open();
        due("after open", 626, w.round(15));
        due("after open, flights", 1, w.flights(15));
        w.wind(9, 9);
        due("after wind", 626 + 18, w.round(15));
        due("after wind, energy", 626 + 18, w.energy(15));
        w.wind(0, 0);
        due("a part of the set", 342, w.round(3));
        due("a part of the set, flights", 1, w.flights(3));
        due("the other part", 342, w.energy(12));
        due("the whole again", 626, w.energy(15));
        w.view(30, 30);
        due("a new VIEW at THE BASE", 626, w.round(31));
        due("the new VIEW alone", 0, w.round(16));
        due("the new VIEW first", 0, w.stop(31, 0));
    }

    private static void promise20Log() {
        WingLooks w = new WingLooks();
        due("log x", BAD, w.log(61, 0, 0));
        due("log y", BAD, w.log(0, -1, 0));
        due("log e 6", BAD, w.log(0, 0, 6));
        due("log e -1", BAD, w.log(0, 0, -1));
        for (int v : WILD) {
            due("log x " + v, BAD, w.log(v, 0, 0));
            due("log y " + v, BAD, w.log(0, v, 0));
            due("log e " + v, BAD, w.log(0, 0, v));
        }
        for (int i = 0; i < 20; i++) {
            due("log " + i, i, w.log(60, 0, i % 6));
        }
        due("log FULL", FULL, w.log(0, 0, 0));
        due("log BAD ahead of FULL", BAD, w.log(0, 0, 6));
        due("log count", 20, w.count(3));
    }

    private static void promise21Proves() {
        WingLooks w = new WingLooks();
        w.panel(10, 10, 20, 10);
        w.panel(20, 5, 10, 5);
        w.log(15, 15, 4);
        w.log(15, 15, 5);
        w.log(15, 35, 5);
        w.log(15, 36, 0);
        w.log(15, 3, 1);
        due("proves by four corners, two slanting", 0, w.proves(0, 0));
        w.eye(1, 0);
        due("proves by four corners", 1, w.proves(0, 0));
        due("two corners on the line", 0, w.proves(1, 0));
        due("upper corners too far", 0, w.proves(2, 0));
        w.eye(0, 31);
        due("upper corners near enough", 1, w.proves(2, 0));
        due("without an end", 1, w.proves(3, 0));
        due("the other PANEL, from below", 1, w.proves(4, 1));
        due("the other PANEL, from above", 0, w.proves(0, 1));
        due("from below, not the first", 0, w.proves(4, 0));
        due("proves log 5", UNKNOWN, w.proves(5, 0));
        due("proves panel 2", UNKNOWN, w.proves(0, 2));
        for (int v : WILD) {
            due("proves log " + v, UNKNOWN, w.proves(v, 0));
            due("proves panel " + v, UNKNOWN, w.proves(0, v));
        }
        due("only the lower left corner is hidden", 0, provesPast(11, 13, 12, 16));
        due("only the lower right corner is hidden", 0, provesPast(19, 13, 18, 16));
        due("only the upper left corner is hidden", 0, provesPast(10, 20, 11, 23));
        due("only the upper right corner is hidden", 0, provesPast(20, 20, 19, 23));
        due("none is hidden", 1, provesPast(0, 0, 0, 9));
        WingLooks edge = new WingLooks();
        edge.panel(0, 60, 0, 0);
        edge.eye(1, 0);
        edge.eye(0, 90);
        edge.log(5, 0, 5);
        edge.log(5, 0, 4);
        due("corners at x 0 on the line", 0, edge.proves(0, 0));
        due("corners below y 0", 1, edge.proves(1, 0));
        WingLooks out = new WingLooks();
        out.panel(0, 0, 0, 60);
        out.eye(0, 90);
        out.log(0, 30, 5);
        due("left of the edge only half", 0, out.proves(0, 0));
    }

    /** A LOG 15, 20 give or take 5, with one other PANEL about. */
    private static int provesPast(int x1, int y1, int x2, int y2) {
        WingLooks w = new WingLooks();
        w.panel(10, 10, 20, 10);
        w.panel(x1, y1, x2, y2);
        w.log(15, 20, 5);
        return w.proves(0, 0);
    }

    private static void promise22Proved() {
        WingLooks w = threePanels();
        w.eye(1, 10);
        due("proved by none", 0, w.proved(0));
        w.log(5, 15, 1);
        w.log(15, 15, 1);
        w.log(25, 15, 0);
        w.log(15, 0, 0);
        w.log(5, 20, 2);
        w.log(5, 20, 2);
        due("proved 0", 4, w.proved(0));
        due("proved 1", 5, w.proved(1));
        w.eye(0, 8);
        due("proved 0 with less RANGE", 1, w.proved(0));
        due("proved 3", UNKNOWN, w.proved(3));
        for (int v : WILD) {
            due("proved " + v, UNKNOWN, w.proved(v));
        }
        WingLooks many = new WingLooks();
        many.panel(10, 10, 20, 10);
        for (int i = 0; i < 20; i++) {
            many.log(15, 20, 0);
        }
        due("proved by all LOGS", 20, many.proved(0));
    }

    private static void promise23Missing() {
        WingLooks w = threePanels();
        w.eye(0, 8);
        for (int i = 0; i < 3; i++) {
            due("missing " + i + " without LOGS", i, w.missing(i, 1));
        }
        due("missing 3 without LOGS", NONE, w.missing(3, 1));
        w.log(15, 15, 0);
        due("missing 0", 0, w.missing(0, 1));
        due("missing 1 skips the proved one", 2, w.missing(1, 1));
        due("missing 2", NONE, w.missing(2, 1));
        due("once is fewer than twice", 1, w.missing(1, 2));
        w.log(15, 15, 0);
        due("twice is not fewer than twice", 2, w.missing(1, 2));
        due("twice is fewer than thrice", 1, w.missing(1, 3));
        w.log(15, 15, 0);
        due("thrice is enough", 2, w.missing(1, 3));
        due("missing k 0", BAD, w.missing(0, 0));
        due("missing k 4", BAD, w.missing(0, 4));
        for (int v : WILD) {
            due("missing k " + v, BAD, w.missing(0, v));
            due("missing i " + v, NONE, w.missing(v, 1));
        }
        due("missing BAD, whatever i is", BAD, w.missing(-1, 0));
    }

    private static void promise24Mark() {
        WingLooks w = new WingLooks();
        due("mark on no PANEL", UNKNOWN, w.mark(0, 0, 0, 0));
        w.panel(0, 0, 1, 1);
        due("mark UNKNOWN ahead of BAD", UNKNOWN, w.mark(1, -1, -1, -1));
        for (int v : WILD) {
            due("mark panel " + v, UNKNOWN, w.mark(v, 0, 0, 0));
            due("mark at " + v, BAD, w.mark(0, v, 0, 0));
            due("mark length " + v, BAD, w.mark(0, 0, v, 0));
            due("mark year " + v, BAD, w.mark(0, 0, 0, v));
        }
        due("mark at 1001", BAD, w.mark(0, 1001, 0, 0));
        due("mark length 501", BAD, w.mark(0, 0, 501, 0));
        due("mark year 10", BAD, w.mark(0, 0, 0, 10));
        due("mark 0", 0, w.mark(0, 0, 0, 0));
        due("mark 1", 1, w.mark(0, 1000, 500, 9));
        due("mark 2 at the same place", 2, w.mark(0, 1000, 500, 9));
        w.wipe(2);
        for (int i = 3; i < 40; i++) {
            due("mark " + i, i, w.mark(0, i, i, 1));
        }
        due("mark FULL, also with a wiped one", FULL, w.mark(0, 0, 0, 0));
        due("mark UNKNOWN ahead of FULL", UNKNOWN, w.mark(1, 0, 0, 0));
        due("mark BAD ahead of FULL", BAD, w.mark(0, 0, 0, 10));
    }

    private static void promise25Wipe() {
        WingLooks w = new WingLooks();
        w.panel(0, 0, 1, 1);
        due("wipe none", UNKNOWN, w.wipe(0));
        w.mark(0, 5, 5, 0);
        w.mark(0, 6, 6, 0);
        due("wipe 2", UNKNOWN, w.wipe(2));
        due("wipe 0", 1, w.wipe(0));
        due("wipe 0 again", STATE, w.wipe(0));
        due("its number stays its own", 2, w.mark(0, 7, 7, 0));
        due("the others are there", 2, w.marks(0, 0, false));
        due("the others have their LENGTHS", 13, w.marks(0, 0, true));
        due("wipe 2 now", 1, w.wipe(2));
        for (int v : WILD) {
            due("wipe " + v, UNKNOWN, w.wipe(v));
        }
    }

    private static void promise26Marks() {
        WingLooks w = new WingLooks();
        w.panel(0, 0, 1, 1);
        w.panel(0, 0, 1, 2);
        w.mark(0, 5, 500, 9);
        w.mark(0, 6, 1, 9);
        w.mark(1, 6, 20, 9);
        w.mark(0, 6, 300, 8);
        due("marks", 2, w.marks(0, 9, false));
        due("lengths", 501, w.marks(0, 9, true));
        due("marks of the other PANEL", 1, w.marks(1, 9, false));
        due("lengths of the other YEAR", 300, w.marks(0, 8, true));
        due("marks of an empty YEAR", 0, w.marks(0, 0, false));
        due("lengths of an empty YEAR", 0, w.marks(1, 0, true));
        due("marks panel 2", UNKNOWN, w.marks(2, 0, false));
        due("marks year 10", BAD, w.marks(0, 10, false));
        due("marks UNKNOWN ahead of BAD", UNKNOWN, w.marks(2, 10, false));
        for (int v : WILD) {
            due("marks panel " + v, UNKNOWN, w.marks(v, 0, false));
            due("marks year " + v, BAD, w.marks(0, v, true));
        }
    }

    private static WingLooks twoYears(int[] one, int[] two) {
        WingLooks w = new WingLooks();
        w.panel(0, 0, 1, 1);
        w.panel(0, 0, 1, 2);
        for (int at : one) {
            w.mark(0, at, 1, 3);
        }
        for (int at : two) {
            w.mark(0, at, 1, 7);
        }
        return w;
    }

    private static void matchIs(int[] one, int[] two, int tolerance, int pairs, int drift) {
        String what = Arrays.toString(one) + " and " + Arrays.toString(two) + " by " + tolerance;
        WingLooks w = twoYears(one, two);
        due("pairs of " + what, pairs, w.match(0, 3, 7, tolerance, false));
        due("drift of " + what, drift, w.match(0, 3, 7, tolerance, true));
        due("pairs back of " + what, pairs, w.match(0, 7, 3, tolerance, false));
        due("drift back of " + what, drift, w.match(0, 7, 3, tolerance, true));
        due("the other PANEL has none", 0, w.match(1, 3, 7, tolerance, false));
        due("another YEAR has none", 0, w.match(0, 3, 6, tolerance, true));
    }

    private static void promise27Match() {
        matchIs(new int[] {}, new int[] {}, 1000, 0, 0);
        matchIs(new int[] {5}, new int[] {}, 1000, 0, 0);
        matchIs(new int[] {5}, new int[] {5}, 0, 1, 0);
        matchIs(new int[] {5}, new int[] {6}, 0, 0, 0);
        matchIs(new int[] {0}, new int[] {1000}, 1000, 1, 1000);
        matchIs(new int[] {0}, new int[] {1000}, 999, 0, 0);
        matchIs(new int[] {10, 20}, new int[] {20, 30}, 10, 2, 20);
        matchIs(new int[] {10, 20}, new int[] {20, 30}, 9, 1, 0);
        matchIs(new int[] {20, 10}, new int[] {19, 0, 40}, 10, 2, 11);
        matchIs(new int[] {0, 100}, new int[] {99, 199}, 99, 2, 198);
        matchIs(new int[] {50, 50, 50}, new int[] {50, 51}, 1, 2, 1);
        matchIs(new int[] {100, 200, 300}, new int[] {290, 110, 190}, 100, 3, 30);
        matchIs(new int[] {0, 1, 2}, new int[] {2, 3, 4}, 2, 3, 6);
        matchIs(new int[] {0, 1, 2}, new int[] {2, 3, 4}, 1, 2, 2);
        int[] low = new int[20];
        int[] high = new int[20];
        Arrays.fill(high, 1000);
        matchIs(low, high, 1000, 20, 20000);
        matchIs(new int[40], new int[] {}, 1000, 0, 0);
        matchIs(new int[39], new int[] {9}, 1000, 1, 9);
        WingLooks w = twoYears(new int[] {10, 20}, new int[] {10, 20});
        w.wipe(0);
        due("a wiped MARK is in no pair", 1, w.match(0, 3, 7, 1000, false));
        due("a wiped MARK drifts not", 0, w.match(0, 3, 7, 1000, true));
        due("match panel 2", UNKNOWN, w.match(2, 3, 7, 5, false));
        due("match one 10", BAD, w.match(0, 10, 7, 5, false));
        due("match two 10", BAD, w.match(0, 3, 10, 5, false));
        due("match tolerance 1001", BAD, w.match(0, 3, 7, 1001, false));
        due("match like YEARS", STATE, w.match(0, 3, 3, 5, false));
        due("match UNKNOWN ahead of BAD", UNKNOWN, w.match(2, 10, 10, 5, false));
        due("match BAD ahead of STATE", BAD, w.match(0, 10, 10, 5, false));
        due("match BAD tolerance ahead of STATE", BAD, w.match(0, 3, 3, -1, false));
        for (int v : WILD) {
            due("match panel " + v, UNKNOWN, w.match(v, 3, 7, 5, false));
            due("match one " + v, BAD, w.match(0, v, 7, 5, false));
            due("match two " + v, BAD, w.match(0, 3, v, 5, true));
            due("match tolerance " + v, BAD, w.match(0, 3, 7, v, true));
        }
    }

    private static void promise28Count() {
        WingLooks w = new WingLooks();
        w.panel(0, 0, 1, 1);
        w.view(0, 0);
        w.view(0, 0);
        for (int i = 0; i < 3; i++) {
            w.close(0, 0, 1, 1);
        }
        for (int i = 0; i < 4; i++) {
            w.log(0, 0, 0);
        }
        for (int i = 0; i < 6; i++) {
            w.mark(0, 0, 0, 0);
        }
        w.wipe(5);
        for (int what = 0; what < 5; what++) {
            due("count " + what, what + 1, w.count(what));
        }
        w.open();
        due("count after open", 2, w.count(2));
        due("count 5", BAD, w.count(5));
        for (int v : WILD) {
            due("count " + v, BAD, w.count(v));
        }
    }

    private static void refusedChangesNothing() {
        WingLooks w = fourViews();
        w.panel(10, 10, 20, 10);
        w.round(15);
        w.panel(5, 5, 5, 5);
        w.panel(61, 5, 5, 5);
        w.eye(0, 0);
        w.eye(1, 101);
        w.view(61, 1);
        w.close(5, 5, 5, 6);
        w.open();
        w.wind(5, 10);
        w.wind(10, 5);
        w.base(5, 61);
        w.base(61, 5);
        w.store(0, 0);
        w.store(1, 501);
        w.log(5, 5, 6);
        w.mark(0, 5, 501, 0);
        w.wipe(0);
        int[] counts = {1, 4, 0, 0, 0};
        for (int what = 0; what < 5; what++) {
            due("refused: count " + what, counts[what], w.count(what));
        }
        due("refused: round", 626, w.round(15));
        due("refused: range", 30, w.eye(0, 30));
        due("refused: slant", 25, w.eye(1, 25));
        due("refused: wind", 909, w.wind(0, 0));
        due("refused: base", 3030, w.base(0, 0));
        due("refused: battery", 1000, w.store(0, 1000));
        due("refused: hover", 0, w.store(1, 0));
    }
}
