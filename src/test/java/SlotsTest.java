/** Promises 30 to 32: keep, again, count. */
public final class SlotsTest {
    private static final Check CHECK = new Check();

    public static void main(String[] args) {
        keepAndAgain();
        twoSlots();
        whatIsNotKept();
        refusals();
        count();
        CHECK.end();
    }

    private static void keepAndAgain() {
        KitesWar war = Check.warOf("W012345601K0002059K1200051K1303055");
        CHECK.due("gust", war.gust(), 2);
        CHECK.due("keep", war.keep(1), 2);
        CHECK.due("keep leaves the row", war.count(5), 1);
        war.wind(5, -3);
        war.wind(9, 3);
        war.takeIn(0);
        war.rise(0, -4);
        war.run(0, 2);
        CHECK.due("again", war.again(1), 2);
        int[][] want = {{0, 0, 21, 5, 9, 18}, {1, 30, 31, 5, 5, 10}};
        for (int k = 0; k < 2; k++) {
            for (int what = 0; what < 6; what++) {
                CHECK.due("kite(" + k + ", " + what + ")", war.kite(k, what), want[k][what]);
            }
        }
        CHECK.due("streets", war.count(3), 1);
        CHECK.due("wind", war.wind(5, 0), 4);
        CHECK.due("wind at 9", war.wind(9, 0), 1);
        CHECK.due("the row is empty", war.count(5), 0);
        CHECK.due("nothing to undo", war.undo(), KitesWar.STATE);
        war.takeIn(0);
        CHECK.due("a slot can be gone on from again", war.again(1), 2);
        CHECK.due("as it was kept", war.wind(5, 0), 4);
    }

    private static void twoSlots() {
        KitesWar war = new KitesWar();
        CHECK.due("keep none", war.keep(0), 0);
        war.launch(0, 5, 5, 5);
        CHECK.due("keep one", war.keep(1), 1);
        CHECK.due("again none", war.again(0), 0);
        CHECK.due("again one", war.again(1), 1);
        war.launch(1, 6, 6, 6);
        CHECK.due("a slot is kept anew", war.keep(0), 2);
        CHECK.due("again one", war.again(1), 1);
        CHECK.due("again two", war.again(0), 2);
        CHECK.due("its kite", war.kite(1, 4), 6);
    }

    private static void whatIsNotKept() {
        KitesWar war = Check.warOf("W333333333K0002059K1200051");
        war.seed(3);
        war.keep(0);
        war.see(0, 1, true);
        war.seed(4);
        war.wipe();
        war.again(0);
        CHECK.due("what is seen stays", war.count(6), 1);
        CHECK.due("the seed stays", war.seed(0), 4);
        CHECK.due("the text stays", war.count(0), 0);
    }

    private static void refusals() {
        KitesWar war = new KitesWar();
        int[] none = {-1, 2, Integer.MAX_VALUE, Integer.MIN_VALUE};
        for (int slot : none) {
            CHECK.due("keep(" + slot + ")", war.keep(slot), KitesWar.UNKNOWN);
            CHECK.due("again(" + slot + ")", war.again(slot), KitesWar.UNKNOWN);
        }
        war.gust();
        CHECK.due("nothing was kept", war.again(0), KitesWar.STATE);
        CHECK.due("what is refused leaves the row", war.count(5), 1);
        war.keep(0);
        CHECK.due("the other slot is empty", war.again(1), KitesWar.STATE);
    }

    private static void count() {
        KitesWar war = Check.warOf("W333333333K0002059K1200051K0303055K1330119");
        war.gust();
        war.see(0, 1, true);
        war.see(0, 1, false);
        war.rise(0, 1);
        // 0 cuts 1; 3, from 33 to x 1 at height 1, crosses 0 at like edges and cuts 2.
        int[] want = {42, 2, 1, 1, 1, 2, 2};
        for (int what = 0; what < want.length; what++) {
            CHECK.due("count(" + what + ")", war.count(what), want[what]);
        }
        war.launch(0, 40, 1, 1);
        CHECK.due("KITES of TOWN 0", war.count(2), 2);
        CHECK.due("streets of town 1 are won", war.count(4), 1);
        war.war();
        CHECK.due("no streets of town 0 in a new war", war.count(3), 0);
        CHECK.due("no streets of town 1 in a new war", war.count(4), 0);
        CHECK.due("count(7)", war.count(7), KitesWar.OUTSIDE);
        CHECK.due("count(-1)", war.count(-1), KitesWar.OUTSIDE);
    }
}
