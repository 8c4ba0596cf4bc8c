/** Promises 24 to 29: see, unsee, fits, height, seed, autumn. */
public final class SeenTest {
    private static final Check CHECK = new Check();
    private static final String CALM = "W333333333";

    public static void main(String[] args) {
        see();
        unsee();
        fits();
        heights();
        heightsOfOne();
        fitsOfThoseAway();
        fitsAtMostFour();
        seed();
        autumn();
        autumnChangesOnlyTheSeed();
        CHECK.end();
    }

    private static void see() {
        KitesWar war = Check.warOf(CALM + "K0001055K1200055K0303055K1313155K0323255");
        CHECK.due("see(0, 5)", war.see(0, 5, true), KitesWar.UNKNOWN);
        CHECK.due("see(0, 4): only 0 to 3", war.see(0, 4, true), KitesWar.UNKNOWN);
        CHECK.due("see(4, 0): only 0 to 3", war.see(4, 0, true), KitesWar.UNKNOWN);
        CHECK.due("see(-1, 0)", war.see(-1, 0, true), KitesWar.UNKNOWN);
        CHECK.due("see(4, 4): UNKNOWN first", war.see(4, 4, true), KitesWar.UNKNOWN);
        CHECK.due("see(3, 3)", war.see(3, 3, true), KitesWar.OUTSIDE);
        CHECK.due("nothing is seen", war.count(6), 0);
        for (int i = 1; i <= 8; i++) {
            CHECK.due("see", war.see(0, 3, i % 2 == 0), i);
        }
        CHECK.due("a ninth one", war.see(0, 1, true), KitesWar.FULL);
        CHECK.due("OUTSIDE is ahead of FULL", war.see(1, 1, true), KitesWar.OUTSIDE);
        CHECK.due("count(6)", war.count(6), 8);
        CHECK.due("no act", war.count(5), 0);
    }

    private static void unsee() {
        KitesWar war = Check.warOf(CALM + "K0001055K1200055");
        CHECK.due("unsee of nothing", war.unsee(), 0);
        war.see(0, 1, true);
        war.see(0, 1, false);
        CHECK.due("both can't be", war.fits(), 0);
        CHECK.due("unsee", war.unsee(), 2);
        CHECK.due("nothing is seen", war.count(6), 0);
        CHECK.due("all fit", war.fits(), 81);
    }

    /** Kite 0 straight up at 10, kite 1 from 11 to x 9: they cross if 1 is at most twice as high as 0. */
    private static void fits() {
        CHECK.due("no kite: one row", new KitesWar().fits(), 1);
        CHECK.due("one kite", Check.warOf(CALM + "K0001055").fits(), 9);
        KitesWar war = Check.warOf(CALM + "K0101011K1110991");
        int fit = 0;
        for (int a = 1; a <= 9; a++) {
            for (int b = 1; b <= 9; b++) {
                fit += b <= 2 * a ? 1 : 0;
            }
        }
        war.see(0, 1, true);
        CHECK.due("those that cross", war.fits(), fit);
        war.see(1, 0, true);
        CHECK.due("seen twice", war.fits(), fit);
        war.unsee();
        war.see(1, 0, false);
        CHECK.due("those that do not", war.fits(), 81 - fit);
        CHECK.due("the heights stay", war.kite(0, 3) * 10 + war.kite(1, 3), 19);
        war.run(1, 5);
        CHECK.due("the stakes are those of now", war.fits(), 81);
        war.undo();
        war.wind(1, -3);
        war.gust();
        CHECK.due("x is that of now: 7 at height 1", war.kite(0, 2), 7);
    }

    private static void heights() {
        KitesWar war = Check.warOf(CALM + "K0101055K1110955");
        CHECK.due("nothing seen: least", war.height(0, false), 1);
        CHECK.due("nothing seen: greatest", war.height(0, true), 9);
        war.see(0, 1, false);
        CHECK.due("0 is below half of 1: least", war.height(0, false), 1);
        CHECK.due("0 is below half of 1: greatest", war.height(0, true), 4);
        CHECK.due("1 is above twice 0: least", war.height(1, false), 3);
        CHECK.due("1 is above twice 0: greatest", war.height(1, true), 9);
        CHECK.due("height(2)", war.height(2, true), KitesWar.UNKNOWN);
        CHECK.due("height(-1)", war.height(-1, false), KitesWar.UNKNOWN);
        war.see(0, 1, true);
        CHECK.due("no row: least", war.height(0, false), KitesWar.NONE);
        CHECK.due("no row: greatest", war.height(1, true), KitesWar.NONE);
        CHECK.due("UNKNOWN is ahead of NONE", war.height(2, true), KitesWar.UNKNOWN);
    }

    /** They cross if 1 is at most five times as high as 0; so they do not only if 0 is at 1. */
    private static void heightsOfOne() {
        KitesWar war = Check.warOf(CALM + "K0101055K1110655");
        war.see(0, 1, false);
        CHECK.due("rows", war.fits(), 4);
        CHECK.due("least of 0", war.height(0, false), 1);
        CHECK.due("greatest of 0", war.height(0, true), 1);
        CHECK.due("least of 1", war.height(1, false), 6);
        CHECK.due("greatest of 1", war.height(1, true), 9);
    }

    private static void fitsOfThoseAway() {
        KitesWar war = Check.warOf(CALM + "K0000055K1101055K0202055");
        war.see(0, 2, true);
        CHECK.due("lines straight up never cross", war.fits(), 0);
        CHECK.due("no row", war.height(1, true), KitesWar.NONE);
        war.takeIn(2);
        CHECK.due("2 is away: nothing is looked at", war.fits(), 81);
        CHECK.due("it is still seen", war.count(6), 1);
        CHECK.due("height(2)", war.height(2, true), KitesWar.UNKNOWN);
        war.undo();
        CHECK.due("2 is there again", war.fits(), 0);
    }

    private static void fitsAtMostFour() {
        KitesWar war = Check.warOf(CALM + "K0000055K1101055K0202055K0303055K1404055");
        CHECK.due("four of five", war.fits(), 6561);
        CHECK.due("height(4)", war.height(4, true), KitesWar.UNKNOWN);
        CHECK.due("height(3)", war.height(3, true), 9);
        war.see(2, 3, true);
        CHECK.due("none", war.fits(), 0);
    }

    private static void seed() {
        KitesWar war = new KitesWar();
        CHECK.due("at first", war.seed(Long.MIN_VALUE), 0);
        CHECK.due("seed", war.seed(-1), Long.MIN_VALUE);
        CHECK.due("seed", war.seed(7), -1);
        war.seed(0);
        war.autumn(0, 1);
        long x = 0;
        for (int i = 0; i < 9; i++) {
            x = x * 6364136223846793005L + 1442695040888963407L;
        }
        CHECK.due("nine steps a gust", war.seed(0), x);
    }

    /** The same gusts, with the winds put one by one. */
    private static void autumn() {
        String text = CALM + "K0002059K1200458K0253037K1402534K0100591K1350622";
        for (int m = 1; m <= 20; m++) {
            KitesWar war = Check.warOf(text);
            KitesWar hand = Check.warOf(text);
            war.seed(m);
            long x = m;
            for (int g = 0; g < m; g++) {
                for (int h = 1; h <= 9; h++) {
                    x = x * 6364136223846793005L + 1442695040888963407L;
                    hand.wind(h, (int) ((x >>> 33) % 7) - 3);
                }
                hand.gust();
            }
            CHECK.due("autumn(0, " + m + ")", war.autumn(0, m), hand.count(3));
            CHECK.due("the seed behind it", war.seed(m), x);
            CHECK.due("autumn(1, " + m + ")", war.autumn(1, m), hand.count(4));
        }
        KitesWar war = Check.warOf(text);
        war.seed(5);
        int[][] outside = {{2, 1}, {-1, 1}, {0, 0}, {0, 21}, {0, -1}};
        for (int[] n : outside) {
            CHECK.due("autumn outside", war.autumn(n[0], n[1]), KitesWar.OUTSIDE);
        }
        CHECK.due("what is refused leaves the seed", war.seed(0), 5);
    }

    private static void autumnChangesOnlyTheSeed() {
        KitesWar war = Check.warOf("W012345601K0002059K1200051");
        war.gust();
        CHECK.due("won before", war.count(3), 1);
        CHECK.due("only those in the autumn count", war.autumn(0, 20), 0);
        CHECK.due("streets stay", war.count(3), 1);
        CHECK.due("acts stay", war.count(5), 1);
        CHECK.due("x stays", war.kite(0, 2), 21);
        for (int h = 1; h <= 9; h++) {
            CHECK.due("wind at " + h + " stays", war.wind(h, 0), "012345601".charAt(h - 1) - '0');
        }
    }
}
