/** Promises 19 to 23: after, tonight, tonightAt, forSure, toLaunch. */
public final class PlansTest {
    private static final Check CHECK = new Check();
    private static final String CALM = "W333333333";

    public static void main(String[] args) {
        after();
        tonight();
        tonightOfLikePlans();
        tonightAtTheEdges();
        tonightRefusals();
        forSure();
        forSureOfEight();
        forSureRefusals();
        toLaunch();
        toLaunchRefusals();
        nothingChanges();
        CHECK.end();
    }

    /** Kite 0 drifts right by 3 a gust from x 0; kite 1 stands straight up at 10. */
    private static void after() {
        KitesWar war = Check.warOf("W633333333K0000019K1101051");
        int[] want = {0, 0, 0, 0, 1, 1};
        for (int n = 0; n < want.length; n++) {
            CHECK.due("after(0, " + n + ")", war.after(0, n), want[n]);
            CHECK.due("after(1, " + n + ")", war.after(1, n), 0);
        }
        CHECK.due("after(0, 20)", war.after(0, 20), 1);
        for (int g = 0; g < 4; g++) {
            war.gust();
        }
        CHECK.due("the gusts themselves", war.count(3), 1);
        CHECK.due("only those from now on count", war.after(0, 20), 0);
        war = Check.warOf("W333333336K0101099K1121281");
        CHECK.due("the wind at 9, too", war.after(0, 1), 1);
        int[][] outside = {{2, 0}, {-1, 0}, {0, -1}, {0, 21}, {Integer.MAX_VALUE, Integer.MIN_VALUE}};
        for (int[] numbers : outside) {
            CHECK.due("after outside", war.after(numbers[0], numbers[1]), KitesWar.OUTSIDE);
        }
    }

    private static void plan(String text, int town, int want, String changes) {
        KitesWar war = Check.warOf(text);
        CHECK.due("tonight(" + town + ") of " + text, war.tonight(town), want);
        for (int i = 0; i < changes.length(); i++) {
            CHECK.due("tonightAt(" + town + ", " + i + ") of " + text, war.tonightAt(town, i), changes.charAt(i) - '0');
        }
        CHECK.due("tonightAt behind the last of " + text, war.tonightAt(town, changes.length()), KitesWar.NONE);
    }

    private static void tonight() {
        CHECK.due("of no kites", new KitesWar().tonight(0), 100);
        CHECK.due("of no kites, what the other one has lost", Check.warOf(CALM + "K1001055").tonight(0), 100);
        // They cross at any height: the stronger one wins.
        plan(CALM + "K0002059K1200051", 0, 101, "0");
        plan(CALM + "K0002059K1200051", 1, 99, "0");
        // At height 5 town 0's edge is 2 against 4, at height 6 it is 8: up it wins.
        plan("W333336333K0002052K1200014", 0, 101, "2");
        // Only at height 3 the line of kite 0 meets the line of 1 not yet (12 is left of 13).
        plan("W333333333K0001231K1151329", 0, 100, "0");
        // Kite 0 is blown over the other line only above: +3 at 6, at 5 there is a calm.
        plan("W333336333K0101059K1121251", 0, 101, "2");
        plan("W333633333K0101059K1121251", 0, 101, "0");
        // The wind that would do it is 2 above, 2 below: too far for one night.
        plan("W336333633K0101059K1121251", 0, 100, "0");
        // Both of two could win it, one is enough, but each change that is down comes first.
        plan("W333533333K0101059K0090958K1121151", 0, 101, "00");
    }

    /** Kites 0 and 2 of town 0 each have one of town 1 beside them; the plan is by number. */
    private static void tonightOfLikePlans() {
        plan("W333336333K0101059K1121251K0202059K1222251", 0, 102, "22");
        plan("W333363333K0101059K1121281K0202059K1222281", 0, 102, "11");
        // Down and up are of like use: down is told.
        plan("W333636333K0101059K1121251", 0, 101, "0");
        // Stay and up are of like use: stay is told.
        plan("W333366333K0101059K1121281", 0, 101, "1");
    }

    private static void tonightAtTheEdges() {
        // At height 1 down is stay: the plan is told as down.
        plan("W633333333K0101019K1121251", 0, 101, "0");
        // At height 9 up is stay: stay is the lesser one that does it.
        plan("W333333336K0101099K1121281", 0, 101, "1");
        plan("W333333336K0101089K1121281", 0, 101, "2");
    }

    private static void tonightRefusals() {
        KitesWar war = Check.warOf(CALM + "K0001011K0011011K0021011K0031011K0041011");
        CHECK.due("five are not too many", war.tonight(0), 100);
        CHECK.due("tonightAt(0, 4)", war.tonightAt(0, 4), 0);
        CHECK.due("tonightAt(0, 5)", war.tonightAt(0, 5), KitesWar.NONE);
        CHECK.due("tonightAt(0, MAX)", war.tonightAt(0, Integer.MAX_VALUE), KitesWar.NONE);
        CHECK.due("tonightAt(0, -1): from 0", war.tonightAt(0, -1), KitesWar.OUTSIDE);
        CHECK.due("tonightAt(1, 0)", war.tonightAt(1, 0), KitesWar.NONE);
        CHECK.due("tonight(2)", war.tonight(2), KitesWar.OUTSIDE);
        CHECK.due("tonight(-1)", war.tonight(-1), KitesWar.OUTSIDE);
        CHECK.due("tonightAt(2, 0)", war.tonightAt(2, 0), KitesWar.OUTSIDE);
        CHECK.due("tonightAt(-1, 0)", war.tonightAt(-1, 0), KitesWar.OUTSIDE);
        war.launch(0, 30, 1, 1);
        CHECK.due("six are too many", war.tonight(0), KitesWar.STATE);
        CHECK.due("tonightAt(0, 0) of six", war.tonightAt(0, 0), KitesWar.STATE);
        CHECK.due("tonightAt(0, 9) of six", war.tonightAt(0, 9), KitesWar.STATE);
        CHECK.due("the other town may plan", war.tonight(1), 100);
        CHECK.due("against seven", war.launch(0, 31, 1, 1), 6);
        war.launch(1, 32, 1, 9);
        CHECK.due("one against seven", war.tonight(1), 100);
    }

    private static void forSure() {
        CHECK.due("of no kites", new KitesWar().forSure(0), 100);
        KitesWar war = Check.warOf(CALM + "K0002059K1200051");
        CHECK.due("the stronger one, whatever the other one does", war.forSure(0), 101);
        CHECK.due("the weaker one, whatever it does", war.forSure(1), 99);
        // The other one's line is met only if it stays: for sure there is nothing.
        war = Check.warOf("W333336333K0101059K1121251");
        CHECK.due("tonight there is one", war.tonight(0), 101);
        CHECK.due("the other one flees up with the wind", war.forSure(0), 100);
        // Town 1 can reach the strong wind and has the greater edge there.
        war = Check.warOf("W333336333K0002053K1200051");
        CHECK.due("tonight", war.tonight(0), 101);
        CHECK.due("both go up: 12 against 4", war.forSure(0), 101);
        CHECK.due("the other town", war.forSure(1), 99);
        war = Check.warOf("W333336333K0002033K1200051");
        CHECK.due("3 against 1", war.tonight(0), 101);
        CHECK.due("3 against 4 if the other one goes up", war.forSure(0), 99);
        CHECK.due("that one has it for sure", war.forSure(1), 101);
    }

    /** Four against four in a calm: 6 and 7 cross all four of town 0 at any heights, 4 and 5 none. */
    private static void forSureOfEight() {
        KitesWar war = Check.warOf(CALM + "K0002055K0012055K0022055K0032055K1344051K1354051K1360051K1370051");
        CHECK.due("pairs: of 0 to 3, of these with 6 and 7, of 4 and 5 with 6 and 7, 4 with 5, 6 with 7", war.tangle(), 6 + 8 + 4 + 2);
        CHECK.due("for sure", war.forSure(0), 102);
        CHECK.due("for the other town", war.forSure(1), 98);
        CHECK.due("tonight", war.tonight(0), 102);
    }

    private static void forSureRefusals() {
        KitesWar war = Check.warOf(CALM + "K0001011K0011011K0021011K0031011K0041011K1051011");
        CHECK.due("five are not too many", war.forSure(0), 100);
        CHECK.due("five of the other one, too", war.forSure(1), 100);
        CHECK.due("forSure(2)", war.forSure(2), KitesWar.OUTSIDE);
        CHECK.due("forSure(-1)", war.forSure(-1), KitesWar.OUTSIDE);
        war.launch(0, 30, 1, 1);
        CHECK.due("six are too many", war.forSure(0), KitesWar.STATE);
        CHECK.due("six of the other one, too", war.forSure(1), KitesWar.STATE);
        CHECK.due("OUTSIDE is ahead of STATE", war.forSure(2), KitesWar.OUTSIDE);
    }

    private static void toLaunch() {
        KitesWar war = new KitesWar();
        CHECK.due("nothing to win: the least place", war.toLaunch(0, 9, 1), 1);
        war.launch(1, 0, 5, 1);
        CHECK.due("its stake is taken", war.toLaunch(0, 9, 1), 11);
        // Wind -3 at height 2 alone: from 1 to 3 the new one is blown over the line at 0.
        war = Check.warOf("W303333333K1000051");
        CHECK.due("one gust from 1 at height 2", war.toLaunch(0, 9, 1), 12);
        // The line goes from 30 to 40: in a calm it is met by one between them that is high.
        war = Check.warOf(CALM + "K1304081");
        CHECK.due("straight up at 31 from height 1 on", war.toLaunch(0, 9, 1), 311);
        CHECK.due("a weak one had better be away", war.toLaunch(0, 0, 1), 1);
        CHECK.due("a town's own kite is no prize", war.toLaunch(1, 9, 1), 1);
        // Blown by 3 a gust at height 3, its line goes by 1 a gust at height 1, to the kite at 12.
        war = Check.warOf("W336333333K1121211");
        CHECK.due("behind 1 gust", war.toLaunch(0, 9, 1), 113);
        CHECK.due("behind 4 gusts", war.toLaunch(0, 9, 4), 83);
        CHECK.due("behind 5 gusts", war.toLaunch(0, 9, 5), 73);
        // Only from 40 and only by the wind at 9 the line of the other one is met.
        war = Check.warOf("W333333330K1393981");
        CHECK.due("the last place of all", war.toLaunch(0, 9, 1), 409);
    }

    private static void toLaunchRefusals() {
        KitesWar war = new KitesWar();
        int[][] outside = {{2, 0, 1}, {-1, 0, 1}, {0, -1, 1}, {0, 10, 1}, {0, 0, 0}, {0, 0, 6}, {0, 0, -1}};
        for (int[] n : outside) {
            CHECK.due("toLaunch outside", war.toLaunch(n[0], n[1], n[2]), KitesWar.OUTSIDE);
        }
        for (int k = 0; k < 8; k++) {
            CHECK.due("not yet full", war.toLaunch(0, 0, 5), 10 * k + 1);
            war.launch(0, k, 1, 1);
        }
        CHECK.due("toLaunch with 8", war.toLaunch(0, 0, 1), KitesWar.FULL);
        CHECK.due("OUTSIDE is ahead of FULL", war.toLaunch(0, 10, 1), KitesWar.OUTSIDE);
    }

    private static void nothingChanges() {
        KitesWar war = Check.warOf("W012345601K0002059K1200051");
        war.after(0, 20);
        war.tonight(0);
        war.forSure(1);
        war.toLaunch(0, 9, 5);
        int[] counts = {26, 2, 1, 0, 0, 0, 0};
        for (int what = 0; what <= 6; what++) {
            CHECK.due("count(" + what + ") stays", war.count(what), counts[what]);
        }
        int[] kite = {1, 20, 0, 5, 1, 2};
        for (int what = 0; what < 6; what++) {
            CHECK.due("kite(1, " + what + ") stays", war.kite(1, what), kite[what]);
        }
        for (int h = 1; h <= 9; h++) {
            CHECK.due("wind at " + h + " stays", war.wind(h, 0), "012345601".charAt(h - 1) - '0');
        }
    }
}
