import java.util.function.Supplier;

/** Each number that a call takes: the last that is taken and the first that is refused, on each side. */
public final class BoundsTest {
    private static final Check CHECK = new Check();
    private static final String CALM = "W333333333";
    /** Eight kites at one place: each crosses each, whichever numbers are asked. */
    private static final String ONE_PLACE =
            CALM + "K0001055K0011055K0021055K0031055K1041055K1051055K1061055K1071055";

    private interface Call {
        long of(KitesWar war, int number);
    }

    public static void main(String[] args) {
        theWar();
        rise();
        run();
        launch();
        kitesOfEight();
        kitesOfFewer();
        seenKites();
        townsAndGusts();
        indices();
        slotsAndCounts();
        CHECK.end();
    }

    /** atLeast, atGreatest: what the call answers to the last numbers that are taken. */
    private static void bounds(String name, Supplier<KitesWar> maker, Call call, int refusal,
            int[] range, long atLeast, long atGreatest) {
        int least = range[0];
        int greatest = range[1];
        CHECK.due(name + " " + least, call.of(maker.get(), least), atLeast);
        CHECK.due(name + " " + greatest, call.of(maker.get(), greatest), atGreatest);
        int[] beyond = {least - 1, greatest + 1, Integer.MIN_VALUE, Integer.MAX_VALUE};
        for (int number : beyond) {
            CHECK.due(name + " " + number, call.of(maker.get(), number), refusal);
        }
    }

    private static void outside(String name, Supplier<KitesWar> maker, Call call, int least, int greatest,
            long atLeast, long atGreatest) {
        bounds(name, maker, call, KitesWar.OUTSIDE, new int[] {least, greatest}, atLeast, atGreatest);
    }

    private static void unknown(String name, Supplier<KitesWar> maker, Call call, int greatest,
            long atLeast, long atGreatest) {
        bounds(name, maker, call, KitesWar.UNKNOWN, new int[] {0, greatest}, atLeast, atGreatest);
    }

    private static KitesWar onePlace() {
        return Check.warOf(ONE_PLACE);
    }

    private static KitesWar oneKite() {
        return Check.warOf("W063333333K0202059");
    }

    private static void theWar() {
        outside("write: n", KitesWar::new, (w, n) -> w.write(n, 87), 1, 8, 1, 8);
        outside("kite: what", () -> Check.warOf("W333363333K1202059"), (w, n) -> w.kite(0, n), 0, 5, 1, 36);
        outside("wind: height", () -> Check.warOf("W063333334"), (w, n) -> w.wind(n, 2), 1, 9, 0, 4);
        outside("wind: w", KitesWar::new, (w, n) -> w.wind(1, n), -3, 3, 3, 3);
        outside("wind: w, what it became", KitesWar::new,
                (w, n) -> w.wind(1, n) < 0 ? KitesWar.OUTSIDE : w.wind(1, 0), -3, 3, 0, 6);
    }

    /** n goes from -8 to 8, and HEIGHT from 1 to 9: every n from every HEIGHT. */
    private static void rise() {
        for (int h = 1; h <= 9; h++) {
            for (int n = -10; n <= 10; n++) {
                KitesWar war = new KitesWar();
                war.launch(0, 0, h, 0);
                boolean taken = n >= -8 && n <= 8 && h + n >= 1 && h + n <= 9;
                CHECK.due("rise by " + n + " from " + h, war.rise(0, n), taken ? h + n : KitesWar.OUTSIDE);
                CHECK.due("height behind it", war.kite(0, 3), taken ? h + n : h);
            }
        }
        outside("rise: n from 1", () -> Check.warOf(CALM + "K0000010"), (w, n) -> w.rise(0, n), 0, 8, 1, 9);
        outside("rise: n from 9", () -> Check.warOf(CALM + "K0000090"), (w, n) -> w.rise(0, n), -8, 0, 1, 9);
    }

    private static void run() {
        outside("run: stake", BoundsTest::oneKite, (w, n) -> w.run(0, n), 0, 40, 20, 20);
        KitesWar war = oneKite();
        CHECK.due("run from 20 to 0", war.run(0, 0), 20);
        CHECK.due("run from end to end", war.run(0, 40), 40);
        CHECK.due("run back", war.run(0, 0), 40);
        CHECK.due("run by one", war.run(0, 1), 1);
        CHECK.due("run to itself", war.run(0, 1), KitesWar.STATE);
        CHECK.due("run to where it was", war.run(0, 0), 1);
    }

    private static void launch() {
        outside("launch: town", KitesWar::new, (w, n) -> w.launch(n, 0, 1, 0), 0, 1, 0, 0);
        outside("launch: stake", KitesWar::new, (w, n) -> w.launch(0, n, 1, 0), 0, 40, 0, 0);
        outside("launch: height", KitesWar::new, (w, n) -> w.launch(0, 0, n, 0), 1, 9, 0, 0);
        outside("launch: glass", KitesWar::new, (w, n) -> w.launch(0, 0, 1, n), 0, 9, 0, 0);
        KitesWar war = new KitesWar();
        war.launch(0, 0, 1, 0);
        war.launch(1, 40, 9, 9);
        int[][] want = {{0, 0, 0, 1, 0, 0}, {1, 40, 40, 9, 9, 9}};
        for (int k = 0; k < 2; k++) {
            for (int what = 0; what <= 5; what++) {
                CHECK.due("launched at the bounds: kite(" + k + ", " + what + ")", war.kite(k, what), want[k][what]);
            }
        }
    }

    private static void kitesOfEight() {
        Supplier<KitesWar> eight = BoundsTest::onePlace;
        unknown("kite: kite", eight, (w, n) -> w.kite(n, 1), 7, 0, 7);
        unknown("rise: kite", eight, (w, n) -> w.rise(n, 1), 7, 6, 6);
        unknown("run: kite", eight, (w, n) -> w.run(n, 40), 7, 40, 33);
        unknown("takeIn: kite", eight, (w, n) -> w.takeIn(n), 7, 7, 7);
        unknown("cross: kite", eight, (w, n) -> w.cross(n, 4), 7, 1, 1);
        unknown("cross: other", eight, (w, n) -> w.cross(4, n), 7, 1, 1);
        for (boolean high : new boolean[] {false, true}) {
            unknown("where: kite, above", eight, (w, n) -> w.where(n, 4, high, true), 7, high ? 5 : 10, high ? 5 : 10);
            unknown("where: kite, below", eight, (w, n) -> w.where(n, 4, high, false), 7, 1, 1);
            unknown("where: other, above", eight, (w, n) -> w.where(4, n, high, true), 7, high ? 5 : 10, high ? 5 : 10);
            unknown("where: other, below", eight, (w, n) -> w.where(4, n, high, false), 7, 1, 1);
        }
        unknown("along: kite", eight, (w, n) -> w.along(n, 0), 7, 1, 0);
    }

    /** "There is no such KITE": each number of kites from none to eight, launched and taken in again. */
    private static void kitesOfFewer() {
        KitesWar war = new KitesWar();
        for (int kites = 0; kites <= 8; kites++) {
            knows(war, kites);
            if (kites < 8) {
                war.launch(kites % 2, 5 * kites, 5, kites);
            }
        }
        for (int kites = 8; kites > 0; kites--) {
            knows(war, kites);
            war.takeIn(kites - 1);
        }
        knows(war, 0);
    }

    private static void knows(KitesWar war, int kites) {
        for (int k = -1; k <= 8; k++) {
            boolean there = k >= 0 && k < kites;
            CHECK.due("kite(" + k + ", 4) of " + kites, war.kite(k, 4), there ? k : KitesWar.UNKNOWN);
        }
    }

    /** "0 to 3, there now". */
    private static void seenKites() {
        Supplier<KitesWar> eight = BoundsTest::onePlace;
        unknown("see: kite", eight, (w, n) -> w.see(n, 2, true), 3, 1, 1);
        unknown("see: other", eight, (w, n) -> w.see(2, n, true), 3, 1, 1);
        unknown("height: kite, least", eight, (w, n) -> w.height(n, false), 3, 1, 1);
        unknown("height: kite, greatest", eight, (w, n) -> w.height(n, true), 3, 9, 9);
        Supplier<KitesWar> five = () -> Check.warOf(CALM + "K0000010K0010110K0020210K0030310K0040410");
        unknown("see: kite of five", five, (w, n) -> w.see(n, 1, false), 3, 1, 1);
        unknown("height: kite of five", five, (w, n) -> w.height(n, true), 3, 9, 9);
        Supplier<KitesWar> three = () -> Check.warOf(CALM + "K0000010K0010110K0020210");
        unknown("see: kite of three", three, (w, n) -> w.see(n, 1, false), 2, 1, 1);
        unknown("see: other of three", three, (w, n) -> w.see(1, n, false), 2, 1, 1);
        unknown("height: kite of three", three, (w, n) -> w.height(n, true), 2, 9, 9);
    }

    private static void townsAndGusts() {
        // Blown by 3 a gust at height 1, kite 0 meets the line at 10 in the fourth gust.
        Supplier<KitesWar> war = () -> Check.warOf("W633333333K0000019K1101051");
        outside("after: town", war, (w, n) -> w.after(n, 20), 0, 1, 1, 0);
        outside("after: n", war, (w, n) -> w.after(0, n), 0, 20, 0, 1);
        Supplier<KitesWar> cut = () -> Check.warOf(CALM + "K0002059K1200051");
        outside("tonight: town", cut, (w, n) -> w.tonight(n), 0, 1, 101, 99);
        outside("tonightAt: town", cut, (w, n) -> w.tonightAt(n, 0), 0, 1, 0, 0);
        outside("forSure: town", cut, (w, n) -> w.forSure(n), 0, 1, 101, 99);
        Supplier<KitesWar> line = () -> Check.warOf(CALM + "K1304081");
        outside("toLaunch: town", line, (w, n) -> w.toLaunch(n, 9, 1), 0, 1, 311, 1);
        outside("toLaunch: glass", line, (w, n) -> w.toLaunch(0, n, 1), 0, 9, 1, 311);
        // Blown by 3 a gust at height 3, its line goes by 1 a gust at height 1: from 11 in one gust, from 7 in five.
        Supplier<KitesWar> far = () -> Check.warOf("W336333333K1121211");
        outside("toLaunch: n", far, (w, n) -> w.toLaunch(0, 9, n), 1, 5, 113, 73);
        outside("autumn: town", cut, (w, n) -> w.autumn(n, 20), 0, 1, 1, 0);
        outside("autumn: m", () -> Check.warOf(CALM + "K0004059K1400051"), (w, n) -> w.autumn(0, n), 1, 20, 1, 1);
        outside("autumn: m, the seed behind it", KitesWar::new,
                (w, n) -> w.autumn(0, n) < 0 ? KitesWar.OUTSIDE : w.seed(0), 1, 20, steps(9), steps(180));
    }

    private static long steps(int n) {
        long x = 0;
        for (int i = 0; i < n; i++) {
            x = x * 6364136223846793005L + 1442695040888963407L;
        }
        return x;
    }

    /** The i-th, from 0: the last one there is, and the first one that is not. */
    private static void indices() {
        int[] want = {0, 1, 2, 3, 5, 6, 7};
        KitesWar war = onePlace();
        for (int i = 0; i < 7; i++) {
            CHECK.due("along(4, " + i + ")", war.along(4, i), want[i]);
        }
        int[] beyond = {7, 8, Integer.MAX_VALUE, -1, Integer.MIN_VALUE};
        for (int i : beyond) {
            CHECK.due("along(4, " + i + ")", war.along(4, i), KitesWar.NONE);
        }
        war = Check.warOf(CALM + "K0000010K0010110K0020210K0030310K0040410K1404010");
        for (int kites = 5; kites >= 0; kites--) {
            for (int i = 0; i <= 5; i++) {
                CHECK.due("tonightAt(0, " + i + ") of " + kites, war.tonightAt(0, i), i < kites ? 0 : KitesWar.NONE);
            }
            CHECK.due("tonightAt(0, MAX)", war.tonightAt(0, Integer.MAX_VALUE), KitesWar.NONE);
            CHECK.due("tonightAt(0, -1)", war.tonightAt(0, -1), KitesWar.OUTSIDE);
            CHECK.due("tonightAt(0, MIN)", war.tonightAt(0, Integer.MIN_VALUE), KitesWar.OUTSIDE);
            CHECK.due("tonightAt(1, 0)", war.tonightAt(1, 0), 0);
            CHECK.due("tonightAt(1, 1)", war.tonightAt(1, 1), KitesWar.NONE);
            war.takeIn(0);
        }
    }

    private static void slotsAndCounts() {
        unknown("keep: slot", BoundsTest::oneKite, (w, n) -> w.keep(n), 1, 1, 1);
        Supplier<KitesWar> kept = () -> {
            KitesWar war = oneKite();
            war.keep(0);
            war.launch(0, 0, 1, 1);
            war.keep(1);
            return war;
        };
        unknown("again: slot", kept, (w, n) -> w.again(n), 1, 1, 2);
        Supplier<KitesWar> counted = () -> {
            KitesWar war = onePlace();
            war.see(0, 1, true);
            war.see(0, 1, true);
            return war;
        };
        outside("count: what", counted, (w, n) -> w.count(n), 0, 6, 74, 2);
    }
}
