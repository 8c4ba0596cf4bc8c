/** Promises 1 to 7: a new object, the text, its fault, the war, a kite, the wind. */
public final class WarTest {
    private static final Check CHECK = new Check();
    private static final String CALM = "W333333333";

    public static void main(String[] args) {
        newObject();
        write();
        wipe();
        faults();
        faultOfEachPlace();
        war();
        kite();
        wind();
        CHECK.end();
    }

    private static void newObject() {
        KitesWar war = new KitesWar();
        for (int what = 0; what <= 6; what++) {
            CHECK.due("new count(" + what + ")", war.count(what), 0);
        }
        for (int h = 1; h <= 9; h++) {
            CHECK.due("new wind(" + h + ", 0)", war.wind(h, 0), 3);
        }
        CHECK.due("new kite(0, 0)", war.kite(0, 0), KitesWar.UNKNOWN);
        CHECK.due("new undo", war.undo(), KitesWar.STATE);
        CHECK.due("new again(0)", war.again(0), KitesWar.STATE);
        CHECK.due("new again(1)", war.again(1), KitesWar.STATE);
        CHECK.due("new seed", war.seed(1), 0);
        CHECK.due("new fault: the empty text", war.fault(), 0);
        CHECK.due("new war: the empty text", war.war(), KitesWar.STATE);
    }

    private static void write() {
        KitesWar war = new KitesWar();
        CHECK.due("write(0, ..)", war.write(0, 'W'), KitesWar.OUTSIDE);
        CHECK.due("write(9, ..)", war.write(9, 'W'), KitesWar.OUTSIDE);
        CHECK.due("write(-1, ..)", war.write(-1, 'W'), KitesWar.OUTSIDE);
        CHECK.due("write(MIN, ..)", war.write(Integer.MIN_VALUE, 'W'), KitesWar.OUTSIDE);
        CHECK.due("what is refused writes nothing", war.count(0), 0);
        CHECK.due("write(1, ..) takes the lowest byte", war.write(1, 0x4b57L), 1);
        CHECK.due("it was W", war.fault(), 1);
        CHECK.due("write(2, ..), the lowest two", war.write(2, 0x4b3633L), 3);
        CHECK.due("6 may stand, 3 may stand", war.fault(), 3);
        CHECK.due("a byte above 127 is no figure", war.write(1, 0xb3L), 4);
        CHECK.due("its place", war.fault(), 3);
        for (int length = 12; length <= 68; length += 8) {
            CHECK.due("write(8, ..)", war.write(8, -1L), length);
        }
        CHECK.due("write(7, ..) beyond 74", war.write(7, 0), KitesWar.FULL);
        CHECK.due("nothing came", war.count(0), 68);
        CHECK.due("write(6, ..) to 74", war.write(6, 0), 74);
        CHECK.due("write(1, ..) beyond 74", war.write(1, 0), KitesWar.FULL);
        CHECK.due("OUTSIDE is ahead of FULL", war.write(9, 0), KitesWar.OUTSIDE);
        war.wipe();
        war.write(3, 0x573458L);
        CHECK.due("the highest byte comes first", war.fault(), 2);
        war.wipe();
        war.write(8, 0x5730313233343536L);
        war.write(2, 0x3630L);
        CHECK.due("eight bytes", war.war(), 0);
        for (int h = 1; h <= 9; h++) {
            CHECK.due("wind at " + h, war.wind(h, 0), "012345660".charAt(h - 1) - '0');
        }
    }

    private static void wipe() {
        KitesWar war = new KitesWar();
        CHECK.due("wipe of nothing", war.wipe(), 0);
        Check.write(war, CALM + "K0");
        CHECK.due("wipe", war.wipe(), 12);
        CHECK.due("wiped", war.count(0), 0);
        CHECK.due("fault of what is wiped", war.fault(), 0);
        Check.write(war, CALM);
        CHECK.due("the text begins anew", war.fault(), KitesWar.NONE);
    }

    private static void fault(String text, int want) {
        CHECK.due("fault of " + text, Check.faultOf(text), want);
    }

    private static void faults() {
        fault("", 0);
        fault("w", 0);
        fault("W", 1);
        fault("W0123456", 8);
        fault("W01234560", 9);
        fault("W0123456012", 10);
        fault(CALM, KitesWar.NONE);
        fault(CALM + "K", 11);
        fault(CALM + "K04040", 16);
        fault(CALM + "K0404019", KitesWar.NONE);
        fault(CALM + "K0000011K1010022", KitesWar.NONE);
        // A stake that is taken is a fault at its second figure, ..
        fault(CALM + "K0120011K112", 21);
        fault(CALM + "K0120011K113", 22);
        // .. but all that begins with 4 is gone with 40: the first figure is the fault.
        fault(CALM + "K0400011K14", 20);
        fault(CALM + "K0400011K04", 20);
        fault(CALM + "K0390011K14", 21);
        fault(CALM + "K0390011K1400011K04", 28);
        // x may be like another one's, or like a stake.
        fault(CALM + "K0120512K1050512", KitesWar.NONE);
        // The first fault is told, whatever comes behind.
        fault("W3x3K2", 2);
        fault(CALM + "K0000011K1000011K2", 21);
        StringBuilder whole = new StringBuilder(CALM);
        for (int i = 0; i < 8; i++) {
            whole.append("K").append(i % 2).append("0").append(i).append("4099");
        }
        fault(whole.toString(), KitesWar.NONE);
        fault(whole.substring(0, 73), 73);
    }

    /** Every byte at every place of a part: just those of its list may stand. */
    private static void faultOfEachPlace() {
        String[] may = {"K", "01", "01234", "0123456789", "01234", "0123456789", "123456789", "0123456789"};
        String part = "K0201011";
        for (int place = 0; place < 8; place++) {
            for (int sign = 0; sign < 256; sign++) {
                String text = CALM + part.substring(0, place) + (char) sign;
                boolean stands = sign < 128 && may[place].indexOf(sign) >= 0;
                int end = place == 7 ? KitesWar.NONE : text.length();
                fault(text, stands ? end : text.length() - 1);
            }
        }
        for (int tens = 0; tens <= 9; tens++) {
            for (int ones = 0; ones <= 9; ones++) {
                boolean in = tens * 10 + ones <= 40;
                int at = tens > 4 ? 12 : 13;
                fault(CALM + "K0" + tens + ones, in ? 14 : at);
                fault(CALM + "K000" + tens + ones, in ? 16 : at + 2);
            }
        }
        for (int place = 1; place <= 9; place++) {
            for (int sign = 0; sign < 256; sign++) {
                boolean stands = sign >= '0' && sign <= '6';
                String text = CALM.substring(0, place) + (char) sign;
                int end = place == 9 ? KitesWar.NONE : text.length();
                fault(text, stands ? end : place);
            }
        }
    }

    private static void war() {
        KitesWar war = Check.warOf("W012345601K0051053K1051299");
        CHECK.due("a text with a fault is no war", war.count(1), 0);
        war.wipe();
        Check.write(war, "W012345601K00510530");
        CHECK.due("a byte too many", war.war(), KitesWar.STATE);
        war.wipe();
        Check.write(war, "W012345601K0051053K1401299");
        CHECK.due("war", war.war(), 2);
        CHECK.due("the text stays", war.count(0), 26);
        for (int h = 1; h <= 9; h++) {
            CHECK.due("wind of the text at " + h, war.wind(h, 0), "012345601".charAt(h - 1) - '0');
        }
        warForgets();
    }

    private static void warForgets() {
        KitesWar war = Check.warOf(CALM + "K0001055K1100051");
        war.see(0, 1, true);
        war.seed(77);
        war.keep(0);
        war.keep(1);
        CHECK.due("a gust cuts", war.gust(), 2);
        CHECK.due("a street is won", war.count(3), 1);
        war.wipe();
        Check.write(war, "W3");
        CHECK.due("no war", war.war(), KitesWar.STATE);
        CHECK.due("nothing changed: streets", war.count(3), 1);
        CHECK.due("nothing changed: acts", war.count(5), 1);
        war.wipe();
        Check.write(war, CALM + "K0001055K1100051");
        CHECK.due("war again", war.war(), 2);
        CHECK.due("no streets are won", war.count(3) + war.count(4), 0);
        CHECK.due("the row is empty", war.count(5), 0);
        CHECK.due("nothing to undo", war.undo(), KitesWar.STATE);
        CHECK.due("slot 0 is gone", war.again(0), KitesWar.STATE);
        CHECK.due("slot 1 is gone", war.again(1), KitesWar.STATE);
        CHECK.due("what is seen stays", war.count(6), 1);
        CHECK.due("the seed stays", war.seed(0), 77);
    }

    private static void kite() {
        KitesWar war = Check.warOf("W033333336K0051219K1400394");
        int[][] want = {{0, 5, 12, 1, 9, 36}, {1, 40, 3, 9, 4, 16}};
        for (int k = 0; k < 2; k++) {
            for (int what = 0; what < 6; what++) {
                CHECK.due("kite(" + k + ", " + what + ")", war.kite(k, what), want[k][what]);
            }
        }
        CHECK.due("kite(0, 6)", war.kite(0, 6), KitesWar.OUTSIDE);
        CHECK.due("kite(0, -1)", war.kite(0, -1), KitesWar.OUTSIDE);
        CHECK.due("kite(2, 0)", war.kite(2, 0), KitesWar.UNKNOWN);
        CHECK.due("kite(-1, 0)", war.kite(-1, 0), KitesWar.UNKNOWN);
        CHECK.due("UNKNOWN is ahead of OUTSIDE", war.kite(2, 6), KitesWar.UNKNOWN);
        war.wind(1, 0);
        CHECK.due("the edge goes with the wind", war.kite(0, 5), 9);
    }

    private static void wind() {
        KitesWar war = Check.warOf(CALM + "K0050512");
        CHECK.due("wind(1, -3)", war.wind(1, -3), 3);
        CHECK.due("wind(1, 2)", war.wind(1, 2), 0);
        CHECK.due("wind(1, 2) again", war.wind(1, 2), 5);
        int[][] outside = {{0, 0}, {10, 0}, {-1, 0}, {1, 4}, {1, -4}, {Integer.MAX_VALUE, 0}, {1, Integer.MIN_VALUE}};
        for (int[] numbers : outside) {
            CHECK.due("wind outside", war.wind(numbers[0], numbers[1]), KitesWar.OUTSIDE);
        }
        CHECK.due("what is refused changes nothing", war.wind(1, 2), 5);
        CHECK.due("wind is no act", war.count(5), 0);
        war.gust();
        CHECK.due("the kite goes by it", war.kite(0, 2), 7);
    }
}
