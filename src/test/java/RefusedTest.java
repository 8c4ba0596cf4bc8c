import java.util.function.Consumer;
import java.util.function.Supplier;
import java.util.function.ToLongFunction;

/**
 * "What is refused changes nothing": each refusal that a promise names, on objects whose text, row,
 * slots, seen and seed all hold something; and that a question changes nothing, either.
 */
public final class RefusedTest {
    private static final Check CHECK = new Check();
    private static final int FAR = Integer.MAX_VALUE, DEEP = Integer.MIN_VALUE;

    private final String name;
    private final Supplier<KitesWar> maker;
    private final String untouched;

    private RefusedTest(String name, Supplier<KitesWar> maker) {
        this.name = name;
        this.maker = maker;
        untouched = Probe.behind(maker, war -> { });
    }

    public static void main(String[] args) {
        ofFull();
        ofFew();
        ofNew();
        questions();
        autumn();
        CHECK.end();
    }

    private void refused(String call, ToLongFunction<KitesWar> asked, int want) {
        CHECK.due(name + ": " + call, asked.applyAsLong(maker.get()), want);
        same(call, asked::applyAsLong);
    }

    private void same(String call, Consumer<KitesWar> asked) {
        CHECK.isTrue(name + ": " + call + " changes nothing", Probe.behind(maker, asked).equals(untouched));
    }

    /** Six kites of town 0, two of town 1, a text of 74, 16 acts, 8 seen, both slots, a seed. */
    private static KitesWar full() {
        KitesWar war = Check.warOf("W063333412K0001055K0100055K0020341K0303159K0333098K1201531K1402222K0070777");
        war.see(0, 1, true);
        for (int i = 0; i < 7; i++) {
            war.see(2, 3, false);
        }
        war.seed(-77);
        war.keep(0);
        war.rise(1, 2);
        war.wind(5, 2);
        war.keep(1);
        for (int i = 0; i < 7; i++) {
            war.run(5, 21 + i);
            war.rise(6, i % 2 == 0 ? 1 : -1);
        }
        war.takeIn(4);
        war.launch(0, 38, 4, 9);
        return war;
    }

    /** A text with a fault, three kites, no act, one slot. */
    private static KitesWar few() {
        KitesWar war = Check.warOf("W063333412K0001055K1100051K0303099");
        war.gust();
        war.launch(1, 12, 3, 3);
        war.keep(0);
        war.again(0);
        war.see(0, 1, true);
        war.seed(5);
        war.wipe();
        Check.write(war, "W063333412K0001055K1000051");
        return war;
    }

    private static void ofFull() {
        KitesWar war = full();
        int[] counts = {74, 8, 6, 0, 0, 16, 8};
        for (int what = 0; what < counts.length; what++) {
            CHECK.due("full: count(" + what + ")", war.count(what), counts[what]);
        }
        RefusedTest full = new RefusedTest("full", RefusedTest::full);
        full.refused("write(0, 1)", w -> w.write(0, 1), KitesWar.OUTSIDE);
        full.refused("write(9, 1)", w -> w.write(9, 1), KitesWar.OUTSIDE);
        full.refused("write(1, 1)", w -> w.write(1, 1), KitesWar.FULL);
        full.refused("write(8, 1)", w -> w.write(8, 1), KitesWar.FULL);
        full.refused("wind(0, 1)", w -> w.wind(0, 1), KitesWar.OUTSIDE);
        full.refused("wind(10, 1)", w -> w.wind(10, 1), KitesWar.OUTSIDE);
        full.refused("wind(1, 4)", w -> w.wind(1, 4), KitesWar.OUTSIDE);
        full.refused("wind(9, -4)", w -> w.wind(9, -4), KitesWar.OUTSIDE);
        full.refused("run(5, 41)", w -> w.run(5, 41), KitesWar.OUTSIDE);
        full.refused("run(5, -1)", w -> w.run(5, -1), KitesWar.OUTSIDE);
        full.refused("run(5, 0)", w -> w.run(5, 0), KitesWar.STATE);
        full.refused("run(0, 0)", w -> w.run(0, 0), KitesWar.STATE);
        full.refused("launch(0, 39, 1, 1)", w -> w.launch(0, 39, 1, 1), KitesWar.FULL);
        full.refused("launch(0, 38, 1, 1)", w -> w.launch(0, 38, 1, 1), KitesWar.STATE);
        full.refused("launch(2, 39, 1, 1)", w -> w.launch(2, 39, 1, 1), KitesWar.OUTSIDE);
        full.refused("see(0, 1, true)", w -> w.see(0, 1, true), KitesWar.FULL);
        full.refused("see(0, 0, true)", w -> w.see(0, 0, true), KitesWar.OUTSIDE);
        full.refused("see(0, 4, true)", w -> w.see(0, 4, true), KitesWar.UNKNOWN);
        full.refused("tonight(0)", w -> w.tonight(0), KitesWar.STATE);
        full.refused("tonightAt(0, 0)", w -> w.tonightAt(0, 0), KitesWar.STATE);
        full.refused("forSure(0)", w -> w.forSure(0), KitesWar.STATE);
        full.refused("forSure(1)", w -> w.forSure(1), KitesWar.STATE);
        full.refused("toLaunch(0, 1, 1)", w -> w.toLaunch(0, 1, 1), KitesWar.FULL);
        full.refused("toLaunch(0, 1, 6)", w -> w.toLaunch(0, 1, 6), KitesWar.OUTSIDE);
        full.refused("autumn(0, 0)", w -> w.autumn(0, 0), KitesWar.OUTSIDE);
        full.refused("autumn(0, 21)", w -> w.autumn(0, 21), KitesWar.OUTSIDE);
        full.refused("autumn(2, 1)", w -> w.autumn(2, 1), KitesWar.OUTSIDE);
        full.refused("after(0, 21)", w -> w.after(0, 21), KitesWar.OUTSIDE);
        full.refused("count(7)", w -> w.count(7), KitesWar.OUTSIDE);
        full.unknownKites(8);
        full.unknownSlots();
        full.outsideOfKite(7);
    }

    private static void ofFew() {
        KitesWar war = few();
        int[] counts = {26, 3, 2, 1, 0, 0, 1};
        for (int what = 0; what < counts.length; what++) {
            CHECK.due("few: count(" + what + ")", war.count(what), counts[what]);
        }
        RefusedTest few = new RefusedTest("few", RefusedTest::few);
        few.refused("war()", KitesWar::war, KitesWar.STATE);
        few.refused("undo()", KitesWar::undo, KitesWar.STATE);
        few.refused("again(1)", w -> w.again(1), KitesWar.STATE);
        few.refused("where(0, 1, ..) that do not cross", w -> w.where(0, 1, true, true), KitesWar.STATE);
        few.refused("rise(0, 5) to 10", w -> w.rise(0, 5), KitesWar.OUTSIDE);
        few.refused("rise(0, -5) to 0", w -> w.rise(0, -5), KitesWar.OUTSIDE);
        few.refused("launch(1, 12, 1, 1)", w -> w.launch(1, 12, 1, 1), KitesWar.STATE);
        few.refused("launch(1, 13, 0, 1)", w -> w.launch(1, 13, 0, 1), KitesWar.OUTSIDE);
        few.refused("launch(1, 13, 10, 1)", w -> w.launch(1, 13, 10, 1), KitesWar.OUTSIDE);
        few.refused("launch(1, 13, 1, -1)", w -> w.launch(1, 13, 1, -1), KitesWar.OUTSIDE);
        few.refused("launch(1, 41, 1, 1)", w -> w.launch(1, 41, 1, 1), KitesWar.OUTSIDE);
        few.refused("see(0, 3, true)", w -> w.see(0, 3, true), KitesWar.UNKNOWN);
        few.refused("see(2, 2, true)", w -> w.see(2, 2, true), KitesWar.OUTSIDE);
        few.refused("write(-1, 75)", w -> w.write(-1, 75), KitesWar.OUTSIDE);
        few.unknownKites(3);
        few.unknownSlots();
        few.outsideOfKite(2);
    }

    private static void ofNew() {
        RefusedTest none = new RefusedTest("new", KitesWar::new);
        none.refused("war()", KitesWar::war, KitesWar.STATE);
        none.refused("undo()", KitesWar::undo, KitesWar.STATE);
        none.refused("again(0)", w -> w.again(0), KitesWar.STATE);
        none.refused("again(1)", w -> w.again(1), KitesWar.STATE);
        none.unknownKites(0);
        none.unknownSlots();
    }

    private void unknownKites(int kites) {
        for (int k : new int[] {-1, kites, FAR, DEEP}) {
            refused("kite(" + k + ", 0)", w -> w.kite(k, 0), KitesWar.UNKNOWN);
            refused("rise(" + k + ", 0)", w -> w.rise(k, 0), KitesWar.UNKNOWN);
            refused("run(" + k + ", 39)", w -> w.run(k, 39), KitesWar.UNKNOWN);
            refused("takeIn(" + k + ")", w -> w.takeIn(k), KitesWar.UNKNOWN);
            refused("cross(0, " + k + ")", w -> w.cross(0, k), KitesWar.UNKNOWN);
            refused("where(" + k + ", 0, ..)", w -> w.where(k, 0, false, true), KitesWar.UNKNOWN);
            refused("along(" + k + ", 0)", w -> w.along(k, 0), KitesWar.UNKNOWN);
            refused("see(" + k + ", 0, ..)", w -> w.see(k, 0, false), KitesWar.UNKNOWN);
            refused("height(" + k + ", true)", w -> w.height(k, true), KitesWar.UNKNOWN);
        }
    }

    private void unknownSlots() {
        for (int s : new int[] {-1, 2, FAR, DEEP}) {
            refused("keep(" + s + ")", w -> w.keep(s), KitesWar.UNKNOWN);
            refused("again(" + s + ")", w -> w.again(s), KitesWar.UNKNOWN);
        }
    }

    private void outsideOfKite(int kite) {
        refused("kite(.., 6)", w -> w.kite(kite, 6), KitesWar.OUTSIDE);
        refused("rise(.., 9)", w -> w.rise(kite, 9), KitesWar.OUTSIDE);
        refused("rise(.., -9)", w -> w.rise(kite, -9), KitesWar.OUTSIDE);
        refused("run(.., FAR)", w -> w.run(kite, FAR), KitesWar.OUTSIDE);
        refused("cross of one", w -> w.cross(kite, kite), KitesWar.OUTSIDE);
        refused("where of one", w -> w.where(kite, kite, true, false), KitesWar.OUTSIDE);
    }

    /** What only asks leaves all as it was, the row of acts too. */
    private static void questions() {
        RefusedTest full = new RefusedTest("full", RefusedTest::full);
        RefusedTest few = new RefusedTest("few", RefusedTest::few);
        for (RefusedTest test : new RefusedTest[] {full, few}) {
            test.same("fault", KitesWar::fault);
            test.same("kite", w -> w.kite(0, 5));
            test.same("cross", w -> w.cross(0, 1));
            test.same("where", w -> w.where(0, 1, true, true));
            test.same("along", w -> w.along(0, 0));
            test.same("tangle", KitesWar::tangle);
            test.same("toTakeIn", KitesWar::toTakeIn);
            test.same("after", w -> w.after(0, 20));
            test.same("tonight", w -> w.tonight(1));
            test.same("tonightAt", w -> w.tonightAt(1, 0));
            test.same("forSure", w -> w.forSure(0));
            test.same("toLaunch", w -> w.toLaunch(0, 9, 5));
            test.same("fits", KitesWar::fits);
            test.same("height", w -> w.height(0, true));
            test.same("count", w -> w.count(0));
        }
    }

    /** "Nothing changes but THE SEED." */
    private static void autumn() {
        RefusedTest full = new RefusedTest("full", RefusedTest::full);
        full.same("an autumn, the seed put back", w -> {
            w.autumn(0, 20);
            w.seed(-77);
        });
        RefusedTest few = new RefusedTest("few", RefusedTest::few);
        few.same("an autumn of one gust, the seed put back", w -> {
            w.autumn(1, 1);
            w.seed(5);
        });
        String behind = Probe.behind(RefusedTest::few, w -> w.autumn(1, 1));
        CHECK.isTrue("the seed itself changes", !behind.equals(few.untouched));
    }
}
