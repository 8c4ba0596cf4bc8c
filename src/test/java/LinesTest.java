/** Promises 14 to 18: cross, where, along, tangle, toTakeIn. */
public final class LinesTest {
    private static final Check CHECK = new Check();
    private static final String CALM = "W333333333";

    public static void main(String[] args) {
        cross();
        refusals();
        where();
        along();
        tangle();
        toTakeIn();
        CHECK.end();
    }

    private static void crosses(String parts, int want) {
        KitesWar war = Check.warOf(CALM + parts);
        CHECK.due("cross of " + parts, war.cross(0, 1), want);
        CHECK.due("cross the other way of " + parts, war.cross(1, 0), want);
    }

    private static void cross() {
        crosses("K0001055K1100055", 1);
        crosses("K0000055K1101055", 0);
        // Two kites at one place have their ends in common.
        crosses("K0001055K1201055", 1);
        // A kite on the other one's line, and just beside it.
        crosses("K0001080K1200540", 1);
        crosses("K0001080K1200640", 0);
        crosses("K0001080K1200530", 0);
        crosses("K0001080K1200550", 1);
        // Lines side by side.
        crosses("K0001050K1102050", 0);
        crosses("K0000010K1400090", 0);
        crosses("K0004010K1400010", 1);
        // One passes below the other kite, or above it.
        crosses("K0103090K1201010", 1);
        crosses("K0103090K1201510", 0);
        crosses("K0103050K1201050", 1);
    }

    private static void refusals() {
        KitesWar war = Check.warOf(CALM + "K0001055K1201155");
        CHECK.due("cross(0, 2)", war.cross(0, 2), KitesWar.UNKNOWN);
        CHECK.due("cross(2, 0)", war.cross(2, 0), KitesWar.UNKNOWN);
        CHECK.due("cross(-1, 0)", war.cross(-1, 0), KitesWar.UNKNOWN);
        CHECK.due("cross(2, 2): UNKNOWN first", war.cross(2, 2), KitesWar.UNKNOWN);
        CHECK.due("cross(1, 1)", war.cross(1, 1), KitesWar.OUTSIDE);
        for (int bits = 0; bits < 4; bits++) {
            boolean high = bits / 2 == 1;
            boolean upper = bits % 2 == 1;
            CHECK.due("where(0, 2)", war.where(0, 2, high, upper), KitesWar.UNKNOWN);
            CHECK.due("where(-1, 0)", war.where(-1, 0, high, upper), KitesWar.UNKNOWN);
            CHECK.due("where(5, 5)", war.where(5, 5, high, upper), KitesWar.UNKNOWN);
            CHECK.due("where(1, 1)", war.where(1, 1, high, upper), KitesWar.OUTSIDE);
            CHECK.due("where they do not cross", war.where(0, 1, high, upper), KitesWar.STATE);
        }
        CHECK.due("along(2, 0)", war.along(2, 0), KitesWar.UNKNOWN);
        CHECK.due("along(-1, 0)", war.along(-1, 0), KitesWar.UNKNOWN);
        CHECK.due("along(0, 0): none", war.along(0, 0), KitesWar.NONE);
        CHECK.due("along(0, -1)", war.along(0, -1), KitesWar.NONE);
        CHECK.due("along(0, MAX)", war.along(0, Integer.MAX_VALUE), KitesWar.NONE);
    }

    private static void isWhere(String parts, int x, int underX, int high, int underHigh) {
        KitesWar war = Check.warOf(CALM + parts);
        for (int a = 0; a < 2; a++) {
            CHECK.due("x above of " + parts, war.where(a, 1 - a, false, true), x);
            CHECK.due("x below of " + parts, war.where(a, 1 - a, false, false), underX);
            CHECK.due("height above of " + parts, war.where(a, 1 - a, true, true), high);
            CHECK.due("height below of " + parts, war.where(a, 1 - a, true, false), underHigh);
        }
    }

    private static void where() {
        isWhere("K0001055K1100055", 5, 1, 5, 2);
        isWhere("K0001055K1201055", 10, 1, 5, 1);
        isWhere("K0001080K1200540", 5, 1, 4, 1);
        // 0 straight up at x 0: nothing of x stands above.
        isWhere("K0000090K1100010", 0, 1, 1, 1);
        // From 0 to (7, 9) and from 3 to (0, 4): 7y/9 = 3 - 3y/4, y = 108/55, x = 84/55.
        isWhere("K0000790K1030040", 84, 55, 108, 55);
        isWhere("K0004010K1400010", 20, 1, 1, 2);
        isWhere("K0400019K1003911", 1560, 79, 40, 79);
    }

    /** Lines from the right cross one that stands straight up. */
    private static void along() {
        KitesWar war = Check.warOf(CALM + "K0101090K1200080K1110060K0120020K1301055K0050090");
        // At x 10: kite 1 at 4, kite 2 at 6/11, kite 3 at 1/3, kite 4 at 5.
        int[] want = {3, 2, 1, 4, KitesWar.NONE, KitesWar.NONE};
        for (int i = 0; i < want.length; i++) {
            CHECK.due("along(0, " + i + ")", war.along(0, i), want[i]);
        }
        war = Check.warOf(CALM + "K0200040K1000090K0101090K1301090");
        CHECK.due("the lowest", war.along(2, 0), 0);
        CHECK.due("where two kites meet", war.along(2, 1), 3);
        CHECK.due("no more", war.along(2, 2), KitesWar.NONE);
        war = Check.warOf(CALM + "K0301020K1201090K0150520K0400030");
        CHECK.due("a kite that none crosses", war.along(2, 0), KitesWar.NONE);
        // Of like heights the least number.
        war = Check.warOf(CALM + "K0101090K1200080K0180280K0150580");
        for (int i = 0; i < 3; i++) {
            CHECK.due("all cross at 4: along(0, " + i + ")", war.along(0, i), i + 1);
        }
        CHECK.due("no more", war.along(0, 3), KitesWar.NONE);
    }

    private static void tangle() {
        CHECK.due("tangle of none", new KitesWar().tangle(), 0);
        CHECK.due("a pair", Check.warOf(CALM + "K0001055K1100055").tangle(), 1);
        CHECK.due("of one town, too", Check.warOf(CALM + "K0001055K0100055").tangle(), 1);
        KitesWar war = new KitesWar();
        for (int k = 0; k < 8; k++) {
            war.launch(k % 2, k, 5, 0);
        }
        CHECK.due("side by side", war.tangle(), 0);
        war = Check.warOf(CALM + "K0001055K0011055K0021055K0031055K1041055K1051055K1061055K1071055");
        CHECK.due("all at one place", war.tangle(), 28);
        CHECK.due("all but one", war.toTakeIn(), 127);
    }

    private static void toTakeIn() {
        CHECK.due("of none", new KitesWar().toTakeIn(), 0);
        CHECK.due("none cross", Check.warOf(CALM + "K0000055K1101055").toTakeIn(), 0);
        CHECK.due("of a pair the least", Check.warOf(CALM + "K0001055K1100055").toTakeIn(), 1);
        // 2 crosses 0 and 1, which do not cross.
        CHECK.due("the middle one", Check.warOf(CALM + "K0101090K0121290K1200050").toTakeIn(), 4);
        // Two pairs far from each other: 0 with 2, 1 with 3.
        CHECK.due("two pairs", Check.warOf(CALM + "K0000550K0303550K1050050K1353050").toTakeIn(), 3);
        // A ring 0-1-2-3: {1, 3} and {0, 2} would do; the least as bits is {0, 2}.
        KitesWar war = Check.warOf(CALM + "K0101090K1003050K0151590K1013150");
        CHECK.due("ring: 4 pairs", war.tangle(), 4);
        CHECK.due("ring", war.toTakeIn(), 5);
        // The same with other numbers: {0, 3} is 9, {1, 2} is 6.
        war = Check.warOf(CALM + "K0101090K1003050K1013150K0151590");
        CHECK.due("ring, by other numbers", war.toTakeIn(), 6);
    }
}
