import java.util.ArrayList;
import java.util.List;
import java.util.function.ToIntFunction;

/**
 * Section 4 of the document: each refusal of each call, which of several is told, and that a refused call changes
 * nothing: behind it an object answers all that one can ask just as its twin does, which was not called so.
 */
public final class RefusalTests {
    private static final int UNKNOWN = -1, BAD = -2, STATE = -3, FULL = -4, NONE = -9;
    /** An object serves 512 calls, of which making and looking take some 300. */
    private static final int IN_A_ROW = 100;
    private static int wrong = 0;
    private static int checked = 0;

    /** A call that is to be refused, and how. */
    private record Refusal(String what, int want, ToIntFunction<WingLooks> call) {
    }

    private static void due(String what, int want, int got) {
        checked++;
        if (want != got) {
            wrong++;
            System.out.println(what + ": answered " + got + ", due is " + want);
        }
    }

    public static void main(String[] args) {
        List<int[]> some = look(someOfEach());
        List<int[]> full = look(fullOfAll());
        for (Refusal refusal : refusalsOfOne()) {
            refuse(refusal, someOfEach(), some);
        }
        for (Refusal refusal : refusalsOfSeveral()) {
            refuse(refusal, someOfEach(), some);
        }
        for (Refusal refusal : refusalsWhenFull()) {
            refuse(refusal, fullOfAll(), full);
        }
        for (int from = 0; from < refusalsOfOne().size(); from += IN_A_ROW) {
            manyInARow(refusalsOfOne(), from, someOfEach(), some);
        }
        manyInARow(refusalsOfSeveral(), 0, someOfEach(), some);
        manyInARow(refusalsWhenFull(), 0, fullOfAll(), full);
        nothingToOpen();
        refusedThenAllowed();
        setsWithABitThatIsNoView();
        noneIsNoRefusal();
        System.out.println("RefusalTests: " + checked + " answers looked at, " + wrong + " not as due");
        if (wrong != 0) {
            System.exit(1);
        }
    }

    // ---- objects that are called

    /** Neither empty nor full, and nothing of it as it was at first. */
    private static WingLooks someOfEach() {
        WingLooks w = new WingLooks();
        w.panel(10, 10, 20, 10);
        w.panel(30, 10, 40, 10);
        w.panel(44, 30, 44, 34);
        w.eye(0, 33);
        w.eye(1, 12);
        w.view(15, 20);
        w.view(35, 21);
        w.view(25, 25);
        w.close(3, 3, 5, 6);
        w.close(20, 12, 24, 14);
        w.wind(-4, 5);
        w.base(2, 7);
        w.store(0, 900);
        w.store(1, 11);
        w.log(15, 18, 2);
        w.log(36, 19, 1);
        w.mark(0, 100, 10, 0);
        w.mark(0, 130, 20, 1);
        w.mark(0, 90, 30, 1);
        w.mark(2, 500, 40, 9);
        w.wipe(2);
        return w;
    }

    private static WingLooks fullOfAll() {
        WingLooks w = new WingLooks();
        for (int i = 0; i < 12; i++) {
            w.panel(5 * i, 10, 5 * i + 2, 10);
        }
        for (int i = 0; i < 10; i++) {
            w.view(6 * i, 30 + i);
        }
        for (int i = 0; i < 4; i++) {
            w.close(10 * i, 0, 10 * i + 3, 5);
        }
        for (int i = 0; i < 20; i++) {
            w.log(3 * i, 20, i % 6);
        }
        for (int i = 0; i < 40; i++) {
            w.mark(i % 3, 25 * i, 10 * i, i % 2);
        }
        w.wipe(7);
        w.eye(0, 60);
        w.eye(1, 3);
        w.store(0, 30000);
        w.store(1, 1);
        w.wind(2, -3);
        w.base(31, 32);
        return w;
    }

    // ---- all that one can ask

    /** The answers to all that shows what an object holds; the last ones take it apart. */
    private static List<int[]> look(WingLooks w) {
        List<int[]> answers = new ArrayList<>();
        for (int what = 0; what < 5; what++) {
            tell(answers, w.count(what));
        }
        lookAtPanels(w, answers);
        lookAtRoutes(w, answers);
        lookAtMarks(w, answers);
        tell(answers, w.eye(0, 1), w.eye(1, 1), w.wind(0, 0), w.base(0, 0), w.store(0, 1), w.store(1, 0));
        for (int i = 0; i < 5; i++) {
            tell(answers, w.open());
            tell(answers, w.leg(0, 4, 60, 4), w.leg(0, 13, 60, 13));
        }
        tell(answers, w.panel(0, 0, 1, 1), w.view(0, 0), w.log(0, 0, 0), w.mark(0, 0, 0, 0));
        return answers;
    }

    private static void tell(List<int[]> answers, int... more) {
        answers.add(more);
    }

    private static void lookAtPanels(WingLooks w, List<int[]> answers) {
        for (int view = 0; view < 10; view++) {
            tell(answers, w.sees(view));
        }
        for (int panel = 0; panel < 12; panel++) {
            tell(answers, w.seen(0, 60, panel), w.proved(panel));
        }
        for (int k = 1; k <= 3; k++) {
            tell(answers, w.cover(k), w.covers(7, k), w.missing(0, k), w.missing(1, k));
        }
        tell(answers, w.times(0), w.times(7), w.proves(0, 0), w.proves(1, 1));
    }

    private static void lookAtRoutes(WingLooks w, List<int[]> answers) {
        for (int set = 0; set < 16; set++) {
            tell(answers, w.round(set), w.flights(set), w.energy(set));
        }
        for (int place = 0; place < 10; place++) {
            tell(answers, w.stop(7, place), w.stop(1023, place));
        }
        tell(answers, w.round(1023), w.flights(1023), w.energy(1023));
        tell(answers, w.leg(0, 4, 60, 4), w.leg(60, 4, 0, 4), w.leg(0, 13, 60, 13), w.leg(7, 60, 7, 0));
    }

    private static void lookAtMarks(WingLooks w, List<int[]> answers) {
        for (int panel = 0; panel < 3; panel++) {
            for (int year : new int[] {0, 1, 9}) {
                tell(answers, w.marks(panel, year, false), w.marks(panel, year, true));
            }
            tell(answers, w.match(panel, 0, 1, 50, false), w.match(panel, 0, 1, 50, true));
            tell(answers, w.match(panel, 1, 9, 1000, false), w.match(panel, 1, 9, 1000, true));
        }
        for (int mark = 0; mark < 40; mark += 3) {
            tell(answers, w.wipe(mark));
        }
        tell(answers, w.wipe(2), w.wipe(7), w.wipe(40));
    }

    private static void refuse(Refusal refusal, WingLooks w, List<int[]> twin) {
        due(refusal.what, refusal.want, refusal.call.applyAsInt(w));
        likeTwin("behind " + refusal.what, look(w), twin);
    }

    private static void likeTwin(String what, List<int[]> answers, List<int[]> twin) {
        for (int i = 0; i < twin.size(); i++) {
            for (int j = 0; j < twin.get(i).length; j++) {
                due(what + ", look " + i + "." + j, twin.get(i)[j], answers.get(i)[j]);
            }
        }
    }

    private static void manyInARow(List<Refusal> refusals, int from, WingLooks w, List<int[]> twin) {
        for (int i = from; i < Math.min(from + IN_A_ROW, refusals.size()); i++) {
            Refusal refusal = refusals.get(i);
            due("in a row: " + refusal.what, refusal.want, refusal.call.applyAsInt(w));
        }
        likeTwin("behind many in a row from " + from, look(w), twin);
    }

    // ---- each refusal by itself

    /** Refused just below the least, just above the greatest, and at the ends of int. */
    private static void beyond(List<Refusal> to, String what, int want, int[] bounds, Asked call) {
        int[] values = {bounds[0] - 1, bounds[1] + 1, Integer.MIN_VALUE, Integer.MAX_VALUE};
        for (int v : values) {
            to.add(new Refusal(what + " " + v, want, w -> call.ask(w, v)));
        }
    }

    private interface Asked {
        int ask(WingLooks w, int v);
    }

    private static int[] span(int least, int greatest) {
        return new int[] {least, greatest};
    }

    private static List<Refusal> refusalsOfOne() {
        List<Refusal> all = new ArrayList<>();
        badPoints(all);
        badSettings(all);
        badMarks(all);
        unknownOnes(all);
        all.add(new Refusal("panel STATE", STATE, w -> w.panel(5, 6, 5, 6)));
        all.add(new Refusal("close STATE, x as great", STATE, w -> w.close(5, 5, 5, 9)));
        all.add(new Refusal("close STATE, y as great", STATE, w -> w.close(5, 5, 9, 5)));
        all.add(new Refusal("close STATE, x less", STATE, w -> w.close(5, 5, 4, 9)));
        all.add(new Refusal("close STATE, y less", STATE, w -> w.close(5, 5, 9, 4)));
        all.add(new Refusal("wipe STATE", STATE, w -> w.wipe(2)));
        all.add(new Refusal("match STATE", STATE, w -> w.match(0, 1, 1, 5, true)));
        return all;
    }

    private static void badPoints(List<Refusal> to) {
        int[] field = span(0, 60);
        beyond(to, "panel x1", BAD, field, (w, v) -> w.panel(v, 1, 2, 2));
        beyond(to, "panel y1", BAD, field, (w, v) -> w.panel(1, v, 2, 2));
        beyond(to, "panel x2", BAD, field, (w, v) -> w.panel(1, 1, v, 2));
        beyond(to, "panel y2", BAD, field, (w, v) -> w.panel(1, 1, 2, v));
        beyond(to, "view x", BAD, field, (w, v) -> w.view(v, 1));
        beyond(to, "view y", BAD, field, (w, v) -> w.view(1, v));
        beyond(to, "seen x", BAD, field, (w, v) -> w.seen(v, 1, 0));
        beyond(to, "seen y", BAD, field, (w, v) -> w.seen(1, v, 0));
        beyond(to, "close x1", BAD, field, (w, v) -> w.close(v, 1, 2, 2));
        beyond(to, "close y1", BAD, field, (w, v) -> w.close(1, v, 2, 2));
        beyond(to, "close x2", BAD, field, (w, v) -> w.close(1, 1, v, 2));
        beyond(to, "close y2", BAD, field, (w, v) -> w.close(1, 1, 2, v));
        beyond(to, "base x", BAD, field, (w, v) -> w.base(v, 1));
        beyond(to, "base y", BAD, field, (w, v) -> w.base(1, v));
        beyond(to, "leg x1", BAD, field, (w, v) -> w.leg(v, 1, 2, 2));
        beyond(to, "leg y1", BAD, field, (w, v) -> w.leg(1, v, 2, 2));
        beyond(to, "leg x2", BAD, field, (w, v) -> w.leg(1, 1, v, 2));
        beyond(to, "leg y2", BAD, field, (w, v) -> w.leg(1, 1, 2, v));
        beyond(to, "log x", BAD, field, (w, v) -> w.log(v, 1, 1));
        beyond(to, "log y", BAD, field, (w, v) -> w.log(1, v, 1));
    }

    private static void badSettings(List<Refusal> to) {
        beyond(to, "eye what", BAD, span(0, 1), (w, v) -> w.eye(v, 50));
        beyond(to, "RANGE", BAD, span(1, 90), (w, v) -> w.eye(0, v));
        beyond(to, "SLANT", BAD, span(0, 100), (w, v) -> w.eye(1, v));
        beyond(to, "cover k", BAD, span(1, 3), WingLooks::cover);
        beyond(to, "covers k", BAD, span(1, 3), (w, v) -> w.covers(1, v));
        beyond(to, "wind x", BAD, span(-9, 9), (w, v) -> w.wind(v, 1));
        beyond(to, "wind y", BAD, span(-9, 9), (w, v) -> w.wind(1, v));
        beyond(to, "store what", BAD, span(0, 1), (w, v) -> w.store(v, 50));
        beyond(to, "BATTERY", BAD, span(1, 30000), (w, v) -> w.store(0, v));
        beyond(to, "HOVER", BAD, span(0, 500), (w, v) -> w.store(1, v));
        beyond(to, "log e", BAD, span(0, 5), (w, v) -> w.log(1, 1, v));
        beyond(to, "missing k", BAD, span(1, 3), (w, v) -> w.missing(0, v));
        beyond(to, "count what", BAD, span(0, 4), WingLooks::count);
    }

    private static void badMarks(List<Refusal> to) {
        beyond(to, "mark at", BAD, span(0, 1000), (w, v) -> w.mark(0, v, 1, 1));
        beyond(to, "mark length", BAD, span(0, 500), (w, v) -> w.mark(0, 1, v, 1));
        beyond(to, "mark year", BAD, span(0, 9), (w, v) -> w.mark(0, 1, 1, v));
        beyond(to, "marks year", BAD, span(0, 9), (w, v) -> w.marks(0, v, true));
        beyond(to, "match one", BAD, span(0, 9), (w, v) -> w.match(0, v, 1, 5, true));
        beyond(to, "match two", BAD, span(0, 9), (w, v) -> w.match(0, 1, v, 5, false));
        beyond(to, "match tolerance", BAD, span(0, 1000), (w, v) -> w.match(0, 0, 1, v, true));
    }

    /** There are 3 PANELS, 3 VIEWS, 2 LOGS and 4 MARKS. */
    private static void unknownOnes(List<Refusal> to) {
        beyond(to, "seen panel", UNKNOWN, span(0, 2), (w, v) -> w.seen(1, 1, v));
        beyond(to, "sees", UNKNOWN, span(0, 2), WingLooks::sees);
        beyond(to, "covers set", UNKNOWN, span(0, 7), (w, v) -> w.covers(v, 1));
        beyond(to, "times", UNKNOWN, span(0, 7), WingLooks::times);
        beyond(to, "round", UNKNOWN, span(0, 7), WingLooks::round);
        beyond(to, "stop set", UNKNOWN, span(0, 7), (w, v) -> w.stop(v, 0));
        beyond(to, "flights", UNKNOWN, span(0, 7), WingLooks::flights);
        beyond(to, "energy", UNKNOWN, span(0, 7), WingLooks::energy);
        beyond(to, "proves log", UNKNOWN, span(0, 1), (w, v) -> w.proves(v, 0));
        beyond(to, "proves panel", UNKNOWN, span(0, 2), (w, v) -> w.proves(0, v));
        beyond(to, "proved", UNKNOWN, span(0, 2), WingLooks::proved);
        beyond(to, "mark panel", UNKNOWN, span(0, 2), (w, v) -> w.mark(v, 1, 1, 1));
        beyond(to, "wipe", UNKNOWN, span(0, 3), WingLooks::wipe);
        beyond(to, "marks panel", UNKNOWN, span(0, 2), (w, v) -> w.marks(v, 1, false));
        beyond(to, "match panel", UNKNOWN, span(0, 2), (w, v) -> w.match(v, 0, 1, 5, false));
    }

    // ---- of several what is told first

    private static List<Refusal> refusalsOfSeveral() {
        List<Refusal> all = new ArrayList<>();
        all.add(new Refusal("panel BAD, STATE", BAD, w -> w.panel(61, 5, 61, 5)));
        all.add(new Refusal("panel BAD, STATE below", BAD, w -> w.panel(-1, -1, -1, -1)));
        all.add(new Refusal("seen BAD, UNKNOWN", BAD, w -> w.seen(61, 5, 3)));
        all.add(new Refusal("seen BAD, UNKNOWN below", BAD, w -> w.seen(5, -1, -1)));
        all.add(new Refusal("covers UNKNOWN, BAD", UNKNOWN, w -> w.covers(8, 4)));
        all.add(new Refusal("covers UNKNOWN, BAD below", UNKNOWN, w -> w.covers(-1, 0)));
        all.add(new Refusal("close BAD, STATE", BAD, w -> w.close(61, 5, 61, 9)));
        all.add(new Refusal("close BAD, STATE below", BAD, w -> w.close(5, 5, 9, -1)));
        all.add(new Refusal("proves UNKNOWN both", UNKNOWN, w -> w.proves(2, 3)));
        all.add(new Refusal("mark UNKNOWN, BAD at", UNKNOWN, w -> w.mark(3, 1001, 1, 1)));
        all.add(new Refusal("mark UNKNOWN, BAD length", UNKNOWN, w -> w.mark(-1, 1, -1, 1)));
        all.add(new Refusal("mark UNKNOWN, BAD year", UNKNOWN, w -> w.mark(3, 1, 1, 10)));
        all.add(new Refusal("marks UNKNOWN, BAD", UNKNOWN, w -> w.marks(3, 10, true)));
        all.add(new Refusal("match UNKNOWN, BAD one", UNKNOWN, w -> w.match(3, 10, 1, 5, true)));
        all.add(new Refusal("match UNKNOWN, BAD two", UNKNOWN, w -> w.match(3, 1, -1, 5, true)));
        all.add(new Refusal("match UNKNOWN, BAD tolerance", UNKNOWN, w -> w.match(3, 1, 2, 1001, true)));
        all.add(new Refusal("match UNKNOWN, STATE", UNKNOWN, w -> w.match(3, 1, 1, 5, true)));
        all.add(new Refusal("match UNKNOWN, BAD, STATE", UNKNOWN, w -> w.match(-1, 10, 10, -1, true)));
        all.add(new Refusal("match BAD years, STATE", BAD, w -> w.match(0, 10, 10, 5, true)));
        all.add(new Refusal("match BAD tolerance, STATE", BAD, w -> w.match(0, 1, 1, 1001, true)));
        return all;
    }

    private static List<Refusal> refusalsWhenFull() {
        List<Refusal> all = new ArrayList<>();
        all.add(new Refusal("panel FULL", FULL, w -> w.panel(1, 1, 2, 2)));
        all.add(new Refusal("panel STATE, FULL", STATE, w -> w.panel(1, 1, 1, 1)));
        all.add(new Refusal("panel BAD, FULL", BAD, w -> w.panel(1, 1, 61, 1)));
        all.add(new Refusal("panel BAD, STATE, FULL", BAD, w -> w.panel(61, 1, 61, 1)));
        all.add(new Refusal("view FULL", FULL, w -> w.view(1, 1)));
        all.add(new Refusal("view BAD, FULL", BAD, w -> w.view(1, 61)));
        all.add(new Refusal("close FULL", FULL, w -> w.close(1, 1, 2, 2)));
        all.add(new Refusal("close STATE, FULL", STATE, w -> w.close(1, 1, 1, 2)));
        all.add(new Refusal("close BAD, FULL", BAD, w -> w.close(1, 1, 2, 61)));
        all.add(new Refusal("close BAD, STATE, FULL", BAD, w -> w.close(1, 1, -1, 2)));
        all.add(new Refusal("log FULL", FULL, w -> w.log(1, 1, 1)));
        all.add(new Refusal("log BAD point, FULL", BAD, w -> w.log(-1, 1, 1)));
        all.add(new Refusal("log BAD e, FULL", BAD, w -> w.log(1, 1, 6)));
        all.add(new Refusal("mark FULL", FULL, w -> w.mark(0, 1, 1, 1)));
        all.add(new Refusal("mark UNKNOWN, FULL", UNKNOWN, w -> w.mark(12, 1, 1, 1)));
        all.add(new Refusal("mark BAD, FULL", BAD, w -> w.mark(0, 1, 1, 10)));
        all.add(new Refusal("mark UNKNOWN, BAD, FULL", UNKNOWN, w -> w.mark(12, 1, 1, 10)));
        all.add(new Refusal("seen panel 12", UNKNOWN, w -> w.seen(1, 1, 12)));
        all.add(new Refusal("sees 10", UNKNOWN, w -> w.sees(10)));
        all.add(new Refusal("proves log 20", UNKNOWN, w -> w.proves(20, 0)));
        all.add(new Refusal("proves panel 12", UNKNOWN, w -> w.proves(0, 12)));
        all.add(new Refusal("proved 12", UNKNOWN, w -> w.proved(12)));
        all.add(new Refusal("wipe 40", UNKNOWN, w -> w.wipe(40)));
        all.add(new Refusal("wipe STATE", STATE, w -> w.wipe(7)));
        all.add(new Refusal("marks panel 12", UNKNOWN, w -> w.marks(12, 0, true)));
        all.add(new Refusal("match panel 12", UNKNOWN, w -> w.match(12, 0, 1, 5, true)));
        return all;
    }

    // ---- what is left

    private static void nothingToOpen() {
        WingLooks w = new WingLooks();
        due("open STATE", STATE, w.open());
        due("open STATE again", STATE, w.open());
        likeTwin("behind open", look(w), look(new WingLooks()));
        WingLooks after = new WingLooks();
        after.open();
        due("the first CLOSED place behind a refused open", 1, after.close(1, 1, 3, 3));
        due("it shuts", NONE, after.leg(2, 2, 2, 2));
    }

    /** A refused call takes no number and no room. */
    private static void refusedThenAllowed() {
        WingLooks w = new WingLooks();
        for (int i = 0; i < 12; i++) {
            due("refused panel", STATE, w.panel(i, 1, i, 1));
            due("refused panel", BAD, w.panel(i, 1, 61, 1));
            due("panel", i, w.panel(i, 1, i, 2));
        }
        for (int i = 0; i < 10; i++) {
            due("refused view", BAD, w.view(i, 61));
            due("view", i, w.view(i, 1));
        }
        for (int i = 0; i < 4; i++) {
            due("refused close", STATE, w.close(i, i, i, 9));
            due("refused close", BAD, w.close(i, i, 61, 9));
            due("close", i + 1, w.close(i, i, 9, 9));
        }
        for (int i = 0; i < 20; i++) {
            due("refused log", BAD, w.log(i, 1, 6));
            due("log", i, w.log(i, 1, 5));
        }
        for (int i = 0; i < 40; i++) {
            due("refused mark", UNKNOWN, w.mark(12, i, i, 0));
            due("refused mark", BAD, w.mark(0, i, i, 10));
            due("mark", i, w.mark(0, i, i, 9));
        }
    }

    private static void setsWithABitThatIsNoView() {
        for (int views = 0; views <= 10; views++) {
            WingLooks w = new WingLooks();
            for (int i = 0; i < views; i++) {
                w.view(0, 0);
            }
            int all = (1 << views) - 1;
            setCalls(w, "all of " + views, all, 0);
            for (int bit = views; bit < 32; bit++) {
                setCalls(w, "bit " + bit + " of " + views, 1 << bit, UNKNOWN);
            }
            WingLooks more = new WingLooks();
            for (int i = 0; i < views; i++) {
                more.view(0, 0);
            }
            for (int bit = views; bit < 32; bit++) {
                setCalls(more, "all and bit " + bit + " of " + views, all | 1 << bit, UNKNOWN);
            }
        }
    }

    /** want is UNKNOWN, or anything else, where the answer must be another one. */
    private static void setCalls(WingLooks w, String what, int set, int want) {
        int[] got = {w.covers(set, 1), w.times(set), w.round(set), w.stop(set, 0), w.flights(set), w.energy(set)};
        for (int i = 0; i < got.length; i++) {
            due("set call " + i + " of " + what, want == UNKNOWN ? 1 : 0, got[i] == UNKNOWN ? 1 : 0);
        }
    }

    /** NONE is an answer: where a call is refused, it is refused also where else NONE would be due. */
    private static void noneIsNoRefusal() {
        WingLooks w = new WingLooks();
        w.view(1, 1);
        due("times without PANELS of an unknown set", UNKNOWN, w.times(2));
        due("times without PANELS", NONE, w.times(1));
        due("missing beyond all with k 4", BAD, w.missing(99, 4));
        due("missing beyond all", NONE, w.missing(99, 3));
        due("stop at -1 of an unknown set", UNKNOWN, w.stop(2, -1));
        due("stop at -1", NONE, w.stop(1, -1));
        w.close(0, 0, 60, 60);
        due("round of an unknown set, all shut", UNKNOWN, w.round(2));
        due("round, all shut", NONE, w.round(1));
        due("leg beyond the field, all shut", BAD, w.leg(1, 1, 61, 1));
        due("leg, all shut", NONE, w.leg(1, 1, 2, 1));
        w.panel(10, 10, 20, 10);
        due("cover 4 that there is none of", BAD, w.cover(4));
        due("cover that there is none of", NONE, w.cover(3));
    }
}
