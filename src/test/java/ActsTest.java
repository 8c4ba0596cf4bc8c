/** Promises 8 to 13: rise, run, launch, takeIn, gust, undo. */
public final class ActsTest {
    private static final Check CHECK = new Check();
    private static final String CALM = "W333333333";

    public static void main(String[] args) {
        rise();
        run();
        launch();
        takeIn();
        gustMoves();
        gustCuts();
        gustAtOnce();
        undo();
        undoKeepsWind();
        rowForgets();
        CHECK.end();
    }

    private static void rise() {
        KitesWar war = Check.warOf(CALM + "K0050555");
        CHECK.due("rise(0, 4)", war.rise(0, 4), 9);
        CHECK.due("rise(0, 1) above 9", war.rise(0, 1), KitesWar.OUTSIDE);
        CHECK.due("rise(0, -8)", war.rise(0, -8), 1);
        CHECK.due("rise(0, -1) below 1", war.rise(0, -1), KitesWar.OUTSIDE);
        CHECK.due("rise(0, 9)", war.rise(0, 9), KitesWar.OUTSIDE);
        CHECK.due("rise(0, -9)", war.rise(0, -9), KitesWar.OUTSIDE);
        CHECK.due("rise(0, MAX)", war.rise(0, Integer.MAX_VALUE), KitesWar.OUTSIDE);
        CHECK.due("rise(0, MIN)", war.rise(0, Integer.MIN_VALUE), KitesWar.OUTSIDE);
        CHECK.due("rise(1, 1)", war.rise(1, 1), KitesWar.UNKNOWN);
        CHECK.due("rise(-1, 99): UNKNOWN first", war.rise(-1, 99), KitesWar.UNKNOWN);
        CHECK.due("rise(0, 0)", war.rise(0, 0), 1);
        CHECK.due("what is refused is no act", war.count(5), 3);
        CHECK.due("it is there", war.kite(0, 3), 1);
        CHECK.due("it stays above its place", war.kite(0, 2), 5);
    }

    private static void run() {
        KitesWar war = Check.warOf(CALM + "K0050555K1200555");
        CHECK.due("run(0, 40)", war.run(0, 40), 35);
        CHECK.due("run(0, 0)", war.run(0, 0), 40);
        CHECK.due("run(0, 0) where it is", war.run(0, 0), KitesWar.STATE);
        CHECK.due("run(0, 20) where another is", war.run(0, 20), KitesWar.STATE);
        CHECK.due("run(0, -1)", war.run(0, -1), KitesWar.OUTSIDE);
        CHECK.due("run(0, 41)", war.run(0, 41), KitesWar.OUTSIDE);
        CHECK.due("run(2, 41): UNKNOWN first", war.run(2, 41), KitesWar.UNKNOWN);
        CHECK.due("its stake", war.kite(0, 1), 0);
        CHECK.due("the kite does not go along", war.kite(0, 2), 5);
        CHECK.due("acts", war.count(5), 2);
    }

    private static void launch() {
        KitesWar war = new KitesWar();
        int[][] outside = {{2, 0, 1, 0}, {-1, 0, 1, 0}, {0, 41, 1, 0}, {0, -1, 1, 0},
            {0, 0, 0, 0}, {0, 0, 10, 0}, {0, 0, 1, 10}, {0, 0, 1, -1}};
        for (int[] n : outside) {
            CHECK.due("launch outside", war.launch(n[0], n[1], n[2], n[3]), KitesWar.OUTSIDE);
        }
        CHECK.due("nothing was launched", war.count(1) + war.count(5), 0);
        CHECK.due("launch(1, 7, 3, 9)", war.launch(1, 7, 3, 9), 0);
        int[] want = {1, 7, 7, 3, 9, 9};
        for (int what = 0; what < 6; what++) {
            CHECK.due("launched kite(0, " + what + ")", war.kite(0, what), want[what]);
        }
        CHECK.due("its stake is taken", war.launch(0, 7, 3, 9), KitesWar.STATE);
        CHECK.due("OUTSIDE is ahead of STATE", war.launch(0, 7, 3, 10), KitesWar.OUTSIDE);
        for (int k = 1; k < 8; k++) {
            CHECK.due("launch", war.launch(0, 40 - k, 9, 0), k);
        }
        CHECK.due("a ninth one", war.launch(0, 0, 1, 0), KitesWar.FULL);
        CHECK.due("STATE is ahead of FULL", war.launch(0, 7, 1, 0), KitesWar.STATE);
        CHECK.due("acts", war.count(5), 8);
    }

    private static void takeIn() {
        KitesWar war = Check.warOf(CALM + "K0011111K1022222K0033333");
        CHECK.due("takeIn(3)", war.takeIn(3), KitesWar.UNKNOWN);
        CHECK.due("takeIn(-1)", war.takeIn(-1), KitesWar.UNKNOWN);
        CHECK.due("takeIn(1)", war.takeIn(1), 2);
        int[] want = {0, 3, 33, 3, 3, 3};
        for (int what = 0; what < 6; what++) {
            CHECK.due("the one behind is one less: " + what, war.kite(1, what), want[what]);
        }
        CHECK.due("the one ahead stays", war.kite(0, 1), 1);
        CHECK.due("no street is won by it", war.count(3) + war.count(4), 0);
        CHECK.due("takeIn(1)", war.takeIn(1), 1);
        CHECK.due("takeIn(0)", war.takeIn(0), 0);
        CHECK.due("takeIn(0) of none", war.takeIn(0), KitesWar.UNKNOWN);
        CHECK.due("acts", war.count(5), 3);
    }

    private static void gustMoves() {
        KitesWar war = Check.warOf("W063333333K0100110K0302020K0120210K0313920");
        CHECK.due("gust", war.gust(), 0);
        int[] want = {0, 23, 0, 40};
        for (int k = 0; k < 4; k++) {
            CHECK.due("x of " + k, war.kite(k, 2), want[k]);
        }
        CHECK.due("the stake stays", war.kite(0, 1), 10);
        CHECK.due("a gust is an act", war.count(5), 1);
    }

    /** Of two that cross just behind their move the greater edge stays; of like edges both do. */
    private static void gustCuts() {
        KitesWar war = Check.warOf("W433333333K0101012K1111113");
        CHECK.due("side by side", war.gust(), 0);
        war = Check.warOf("W343333333K0101129K1121112");
        CHECK.due("they cross not yet", war.cross(0, 1), 0);
        CHECK.due("they cross when the wind has moved them", war.gust(), 2);
        CHECK.due("town 0 has won", war.count(3), 1);
        CHECK.due("town 1 has not", war.count(4), 0);
        war = Check.warOf(CALM + "K0001055K1100055");
        CHECK.due("they cross", war.cross(0, 1), 1);
        CHECK.due("like edges", war.gust(), 0);
        CHECK.due("both are there", war.count(1), 2);
        // Glass 2 in wind 3 has edge 8, glass 7 in a calm has 7.
        war = Check.warOf("W333333336K0001092K1100057");
        CHECK.due("the edge counts, not the glass", war.gust(), 2);
        war = Check.warOf("W333333330K0001092K1100057");
        CHECK.due("the wind counts without its sign", war.gust(), 2);
        war = Check.warOf(CALM + "K0001059K0100051");
        CHECK.due("kites of one town do not fight", war.gust(), 0);
    }

    /** All fights are at once: what is cut has cut, too, and each that is cut is one street. */
    private static void gustAtOnce() {
        KitesWar war = Check.warOf(CALM + "K0002055K1101057K0200059K1150951");
        CHECK.due("0 and 2 cross 1", war.cross(0, 1) + war.cross(2, 1), 2);
        CHECK.due("0 and 2 cross 3", war.cross(0, 3) + war.cross(2, 3), 2);
        CHECK.due("1 cuts 0 and is cut by 2; 3 is cut by both", war.gust(), 11);
        CHECK.due("one is left", war.count(1), 1);
        CHECK.due("it is the one of glass 9", war.kite(0, 4), 9);
        CHECK.due("town 0 has won 2", war.count(3), 2);
        CHECK.due("town 1 has won 1", war.count(4), 1);
    }

    private static void undo() {
        KitesWar war = Check.warOf("W333363333K0002055K1200051");
        war.rise(0, 2);
        war.run(0, 3);
        war.launch(1, 40, 2, 2);
        war.takeIn(1);
        war.undo();
        CHECK.due("taken in, undone", war.kite(1, 1), 20);
        CHECK.due("its number is its own again", war.kite(2, 1), 40);
        CHECK.due("undo launch", war.undo(), 2);
        CHECK.due("not launched", war.count(1), 2);
        CHECK.due("undo run", war.undo(), 1);
        CHECK.due("not run", war.kite(0, 1), 0);
        CHECK.due("undo rise", war.undo(), 0);
        CHECK.due("not risen", war.kite(0, 3), 5);
        CHECK.due("undo", war.undo(), KitesWar.STATE);
        CHECK.due("gust", war.gust(), 2);
        CHECK.due("won", war.count(3), 1);
        CHECK.due("undo gust", war.undo(), 0);
        CHECK.due("the street is not won", war.count(3), 0);
        CHECK.due("the kite is back", war.kite(1, 4), 1);
        CHECK.due("where it was", war.kite(1, 2), 0);
        CHECK.due("the other one, too", war.kite(0, 2), 20);
    }

    private static void undoKeepsWind() {
        KitesWar war = Check.warOf(CALM + "K0101055");
        war.rise(0, 1);
        war.wind(5, 2);
        CHECK.due("undo rise", war.undo(), 0);
        CHECK.due("wind is no act and stays", war.wind(5, 2), 5);
    }

    private static void rowForgets() {
        KitesWar war = new KitesWar();
        war.launch(0, 0, 1, 0);
        for (int i = 1; i <= 20; i++) {
            war.run(0, i);
            CHECK.due("acts", war.count(5), Math.min(16, i + 1));
        }
        for (int i = 1; i <= 16; i++) {
            CHECK.due("undo", war.undo(), 16 - i);
            CHECK.due("stake", war.kite(0, 1), 20 - i);
        }
        CHECK.due("those ahead are forgotten", war.undo(), KitesWar.STATE);
        CHECK.due("stake", war.kite(0, 1), 4);
        war.run(0, 30);
        CHECK.due("a new act", war.count(5), 1);
        CHECK.due("undone", war.undo(), 0);
        CHECK.due("stake", war.kite(0, 1), 4);
    }
}
