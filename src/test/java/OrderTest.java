/** "REFUSALS, of several the first that a call names": each call with two refusals or more at once. */
public final class OrderTest {
    private static final Check CHECK = new Check();
    private static final String CALM = "W333333333";
    private static final int UNKNOWN = KitesWar.UNKNOWN, OUTSIDE = KitesWar.OUTSIDE, STATE = KitesWar.STATE,
            FULL = KitesWar.FULL, NONE = KitesWar.NONE;

    public static void main(String[] args) {
        text();
        acts();
        launch();
        lines();
        plans();
        seen();
        slots();
        CHECK.end();
    }

    /** Six kites of town 0 side by side and two of town 1, on stakes 0 to 7. */
    private static KitesWar eight() {
        return Check.warOf(CALM + "K0000019K0010119K0020219K0030319K0040419K0050519K1060619K1070719");
    }

    private static void text() {
        KitesWar war = eight();
        CHECK.due("the text is full", war.count(0), 74);
        CHECK.due("write: OUTSIDE, FULL", war.write(0, 0), OUTSIDE);
        CHECK.due("write: OUTSIDE, FULL", war.write(9, 0), OUTSIDE);
        CHECK.due("write: OUTSIDE, FULL", war.write(Integer.MAX_VALUE, 0), OUTSIDE);
        CHECK.due("write: FULL alone", war.write(1, 0), FULL);
        CHECK.due("kite: UNKNOWN, OUTSIDE", war.kite(8, 6), UNKNOWN);
        CHECK.due("kite: UNKNOWN, OUTSIDE", war.kite(-1, -1), UNKNOWN);
        CHECK.due("wind: both OUTSIDE", war.wind(0, 4), OUTSIDE);
    }

    private static void acts() {
        KitesWar war = eight();
        CHECK.due("rise: UNKNOWN, n OUTSIDE", war.rise(8, 9), UNKNOWN);
        CHECK.due("rise: UNKNOWN, n OUTSIDE", war.rise(-1, -9), UNKNOWN);
        CHECK.due("rise: n and what it would be OUTSIDE", war.rise(0, -9), OUTSIDE);
        CHECK.due("run: UNKNOWN, OUTSIDE", war.run(8, 41), UNKNOWN);
        CHECK.due("run: UNKNOWN, STATE", war.run(8, 0), UNKNOWN);
        CHECK.due("run: UNKNOWN, STATE", war.run(-1, 7), UNKNOWN);
    }

    private static void launch() {
        KitesWar war = eight();
        int[][] outside = {{2, 0, 1, 0}, {-1, 7, 1, 0}, {0, 0, 0, 0}, {0, 7, 10, 0}, {0, 0, 1, 10}, {0, 7, 1, -1}};
        for (int[] n : outside) {
            CHECK.due("launch: OUTSIDE, STATE, FULL", war.launch(n[0], n[1], n[2], n[3]), OUTSIDE);
        }
        CHECK.due("launch: OUTSIDE, FULL", war.launch(0, 41, 1, 0), OUTSIDE);
        CHECK.due("launch: OUTSIDE, FULL", war.launch(2, 40, 1, 0), OUTSIDE);
        CHECK.due("launch: STATE, FULL", war.launch(0, 0, 1, 0), STATE);
        CHECK.due("launch: STATE, FULL", war.launch(1, 7, 9, 9), STATE);
        CHECK.due("launch: FULL alone", war.launch(1, 8, 9, 9), FULL);
        war.takeIn(7);
        CHECK.due("launch: OUTSIDE, STATE", war.launch(2, 0, 1, 0), OUTSIDE);
        CHECK.due("launch: STATE alone", war.launch(1, 0, 1, 0), STATE);
        CHECK.due("launch: none", war.launch(1, 7, 1, 0), 7);
    }

    private static void lines() {
        KitesWar war = eight();
        CHECK.due("cross: UNKNOWN, OUTSIDE", war.cross(8, 8), UNKNOWN);
        CHECK.due("cross: UNKNOWN, OUTSIDE", war.cross(-1, -1), UNKNOWN);
        CHECK.due("cross: the first UNKNOWN alone", war.cross(8, 0), UNKNOWN);
        CHECK.due("cross: the other UNKNOWN alone", war.cross(0, 8), UNKNOWN);
        CHECK.due("cross: OUTSIDE alone", war.cross(7, 7), OUTSIDE);
        for (int bits = 0; bits < 4; bits++) {
            boolean high = bits > 1;
            boolean upper = bits % 2 == 1;
            CHECK.due("where: UNKNOWN, OUTSIDE", war.where(8, 8, high, upper), UNKNOWN);
            CHECK.due("where: UNKNOWN, OUTSIDE", war.where(-1, -1, high, upper), UNKNOWN);
            CHECK.due("where: UNKNOWN, STATE", war.where(0, 8, high, upper), UNKNOWN);
            CHECK.due("where: UNKNOWN, STATE", war.where(8, 0, high, upper), UNKNOWN);
            CHECK.due("where: OUTSIDE alone", war.where(0, 0, high, upper), OUTSIDE);
            CHECK.due("where: STATE alone", war.where(0, 7, high, upper), STATE);
        }
        CHECK.due("along: UNKNOWN, NONE", war.along(8, 99), UNKNOWN);
        CHECK.due("along: UNKNOWN, NONE", war.along(-1, -1), UNKNOWN);
        CHECK.due("along: NONE alone", war.along(7, 0), NONE);
    }

    private static void plans() {
        KitesWar war = eight();
        CHECK.due("after: both OUTSIDE", war.after(2, 21), OUTSIDE);
        CHECK.due("tonight: OUTSIDE where a town has six", war.tonight(2), OUTSIDE);
        CHECK.due("tonight: STATE alone", war.tonight(0), STATE);
        CHECK.due("tonightAt: town OUTSIDE, NONE", war.tonightAt(2, 99), OUTSIDE);
        CHECK.due("tonightAt: i OUTSIDE, STATE", war.tonightAt(0, -1), OUTSIDE);
        CHECK.due("tonightAt: STATE, NONE", war.tonightAt(0, 6), STATE);
        CHECK.due("tonightAt: STATE alone", war.tonightAt(0, 5), STATE);
        CHECK.due("tonightAt: NONE alone", war.tonightAt(1, 2), NONE);
        CHECK.due("tonightAt: none", war.tonightAt(1, 1), 0);
        CHECK.due("forSure: OUTSIDE where a town has six", war.forSure(-1), OUTSIDE);
        CHECK.due("forSure: STATE alone", war.forSure(1), STATE);
        CHECK.due("toLaunch: OUTSIDE, FULL", war.toLaunch(2, 0, 1), OUTSIDE);
        CHECK.due("toLaunch: OUTSIDE, FULL", war.toLaunch(0, 10, 1), OUTSIDE);
        CHECK.due("toLaunch: OUTSIDE, FULL", war.toLaunch(0, 0, 0), OUTSIDE);
        CHECK.due("toLaunch: OUTSIDE, FULL", war.toLaunch(0, 0, 6), OUTSIDE);
        CHECK.due("toLaunch: FULL alone", war.toLaunch(0, 0, 1), FULL);
    }

    private static void seen() {
        KitesWar war = eight();
        CHECK.due("see: UNKNOWN, OUTSIDE", war.see(4, 4, true), UNKNOWN);
        CHECK.due("see: UNKNOWN, OUTSIDE", war.see(-1, -1, true), UNKNOWN);
        for (int i = 1; i <= 8; i++) {
            CHECK.due("see", war.see(0, 1, true), i);
        }
        CHECK.due("see: UNKNOWN, OUTSIDE, FULL", war.see(8, 8, true), UNKNOWN);
        CHECK.due("see: UNKNOWN, FULL", war.see(0, 4, true), UNKNOWN);
        CHECK.due("see: UNKNOWN, FULL", war.see(4, 0, true), UNKNOWN);
        CHECK.due("see: OUTSIDE, FULL", war.see(3, 3, true), OUTSIDE);
        CHECK.due("see: FULL alone", war.see(2, 3, true), FULL);
        CHECK.due("there is no row", war.fits(), 0);
        CHECK.due("height: UNKNOWN, NONE", war.height(4, true), UNKNOWN);
        CHECK.due("height: UNKNOWN, NONE", war.height(-1, false), UNKNOWN);
        CHECK.due("height: NONE alone", war.height(3, true), NONE);
        CHECK.due("autumn: both OUTSIDE", war.autumn(2, 0), OUTSIDE);
    }

    private static void slots() {
        KitesWar war = new KitesWar();
        CHECK.due("again: UNKNOWN, STATE", war.again(2), UNKNOWN);
        CHECK.due("again: UNKNOWN, STATE", war.again(-1), UNKNOWN);
        CHECK.due("again: STATE alone", war.again(1), STATE);
    }
}
