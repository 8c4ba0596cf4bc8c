import java.math.BigInteger;
import java.util.ArrayList;
import java.util.List;

/** The empty, the full, and what is behind a wrap-around: text, kites, row, seen, slots, seed, 512 calls. */
public final class LimitsTest {
    private static final Check CHECK = new Check();
    private static final String CALM = "W333333333";
    private static final int STATE = KitesWar.STATE, FULL = KitesWar.FULL, NONE = KitesWar.NONE;

    public static void main(String[] args) {
        noKites();
        textFills();
        bytesOfALong();
        kitesFill();
        rowFills();
        seventeenthOfEachKind();
        rowGoesRound();
        seenFills();
        rowsOfHeights();
        slots();
        seedWraps();
        autumnByBigNumbers();
        callsOfOneObject();
        CHECK.end();
    }

    /** Every call that needs no kite, where there is none. */
    private static void noKites() {
        KitesWar war = new KitesWar();
        for (int town = 0; town <= 1; town++) {
            CHECK.due("after", war.after(town, 20), 0);
            CHECK.due("tonight", war.tonight(town), 100);
            CHECK.due("tonightAt", war.tonightAt(town, 0), NONE);
            CHECK.due("forSure", war.forSure(town), 100);
            CHECK.due("toLaunch", war.toLaunch(town, 9, 5), 1);
            CHECK.due("autumn", war.autumn(town, 20), 0);
        }
        CHECK.due("tangle", war.tangle(), 0);
        CHECK.due("toTakeIn", war.toTakeIn(), 0);
        CHECK.due("fits", war.fits(), 1);
        CHECK.due("unsee", war.unsee(), 0);
        CHECK.due("wipe", war.wipe(), 0);
        CHECK.due("keep", war.keep(0), 0);
        CHECK.due("gust", war.gust(), 0);
        CHECK.due("a gust without kites is an act", war.count(5), 1);
        CHECK.due("undo", war.undo(), 0);
        CHECK.due("again", war.again(0), 0);
        CHECK.due("kites of town 0", war.count(2), 0);
        war.launch(1, 0, 1, 1);
        CHECK.due("kites of town 0 where all are of town 1", war.count(2), 0);
        CHECK.due("tonight of the other one", war.tonight(0), 100);
    }

    /** "FULL: it would be longer than 74 (nothing comes)": each n at each length near the end. */
    private static void textFills() {
        for (int left = 0; left <= 9; left++) {
            for (int n = 1; n <= 8; n++) {
                KitesWar war = new KitesWar();
                for (int i = left; i < 74; i++) {
                    war.write(1, 'W');
                }
                CHECK.due("write(" + n + ", ..) with " + left + " left", war.write(n, 0), n <= left ? 74 - left + n : FULL);
                CHECK.due("length behind it", war.count(0), n <= left ? 74 - left + n : 74 - left);
            }
        }
        KitesWar war = new KitesWar();
        String text = CALM + "K0001055K0011055K0021055K0031055K1041055K1051055K1061055K10710";
        Check.write(war, text);
        CHECK.due("72 bytes", war.count(0), 72);
        CHECK.due("three more are one too many", war.write(3, 0x353535L), FULL);
        CHECK.due("nothing came: its end is missing", war.fault(), 72);
        CHECK.due("two more", war.write(2, 0x3535L), 74);
        CHECK.due("no fault", war.fault(), NONE);
        CHECK.due("FULL", war.write(1, 'K'), FULL);
        CHECK.due("eight kites", war.war(), 8);
        CHECK.due("wipe of the full text", war.wipe(), 74);
        CHECK.due("there is room again", war.write(8, 0), 8);
    }

    /** "n bytes of v, the lowest n, the highest of these first", for longs below 0, too. */
    private static void bytesOfALong() {
        long v = 0xd7b3b3b333333333L;
        for (int n = 1; n <= 8; n++) {
            KitesWar war = new KitesWar();
            war.write(1, 'W');
            CHECK.due("write(" + n + ", ..)", war.write(n, v), n + 1);
            CHECK.due("fault at the first byte that is no figure", war.fault(), n <= 4 ? n + 1 : 1);
        }
        KitesWar war = new KitesWar();
        war.write(8, 0x5733333333333333L);
        war.write(2, 0xffffffffffff3333L);
        CHECK.due("what is above the lowest n is not looked at", war.fault(), NONE);
        war.write(8, 0x8b30303030303939L);
        CHECK.due("K and 128 is no K", war.fault(), 10);
        war = new KitesWar();
        war.write(1, 0x100 + 'W');
        CHECK.due("the lowest byte alone", war.fault(), 1);
        war = new KitesWar();
        war.write(1, -1);
        CHECK.due("byte 255", war.fault(), 0);
    }

    private static void kitesFill() {
        KitesWar war = new KitesWar();
        for (int k = 0; k < 8; k++) {
            CHECK.due("launch", war.launch(k % 2, k, 1, k % 2 == 0 ? 9 : 0), k);
        }
        CHECK.due("a ninth one", war.launch(0, 9, 1, 1), FULL);
        CHECK.due("toLaunch of a ninth one", war.toLaunch(0, 1, 1), FULL);
        CHECK.due("run where there are eight", war.run(0, 40), 40);
        CHECK.due("now 0 crosses 1 to 7 at height 1 and below", war.tangle(), 7);
        CHECK.due("it cuts the four of town 1", war.gust(), 0b10101010);
        CHECK.due("four are left", war.count(1), 4);
        CHECK.due("streets", war.count(3), 4);
        for (int k = 4; k < 8; k++) {
            CHECK.due("launch where others were cut", war.launch(1, 2 * k - 7, 9, 1), k);
        }
        CHECK.due("eight again", war.launch(0, 9, 1, 1), FULL);
        CHECK.due("undo", war.undo(), 13);
        CHECK.due("room for one again", war.launch(0, 9, 1, 1), 7);
        CHECK.due("takeIn", war.takeIn(0), 7);
        CHECK.due("room for one again", war.launch(0, 10, 1, 1), 7);
        CHECK.due("the first of the others is now 0", war.kite(0, 1), 2);
    }

    private static void rowFills() {
        KitesWar war = new KitesWar();
        CHECK.due("none to undo", war.undo(), STATE);
        war.launch(0, 0, 1, 1);
        for (int i = 2; i <= 18; i++) {
            war.run(0, i);
            CHECK.due("acts in the row", war.count(5), Math.min(i, 16));
        }
        for (int left = 15; left >= 0; left--) {
            CHECK.due("undo", war.undo(), left);
            CHECK.due("count(5)", war.count(5), left);
        }
        CHECK.due("those ahead are forgotten: it stays launched", war.count(1), 1);
        CHECK.due("and at its second stake", war.kite(0, 1), 2);
        CHECK.due("undo of none", war.undo(), STATE);
    }

    /** 16 acts, then a seventeenth of each kind: the first one is forgotten, the last one undone. */
    private static void seventeenthOfEachKind() {
        for (int kind = 0; kind < 5; kind++) {
            KitesWar war = Check.warOf("W343333333K0202025");
            for (int i = 0; i < 16; i++) {
                war.run(0, i);
            }
            switch (kind) {
                case 0: war.rise(0, 1); break;
                case 1: war.run(0, 16); break;
                case 2: war.launch(1, 40, 1, 1); break;
                case 3: war.takeIn(0); break;
                default: war.gust();
            }
            CHECK.due("16 acts in the row, kind " + kind, war.count(5), 16);
            CHECK.due("undo", war.undo(), 15);
            int[] want = {0, 15, 20, 2, 5, 10};
            for (int what = 0; what <= 5; what++) {
                CHECK.due("kite(0, " + what + "), kind " + kind, war.kite(0, what), want[what]);
            }
            CHECK.due("kites, kind " + kind, war.count(1), 1);
            for (int left = 14; left >= 0; left--) {
                CHECK.due("undo", war.undo(), left);
            }
            CHECK.due("undo of none", war.undo(), STATE);
            CHECK.due("the first run is forgotten", war.kite(0, 1), 0);
        }
    }

    /** Acts and undos so that the row goes round more than once, held against a list. */
    private static void rowGoesRound() {
        for (int acts = 1; acts <= 20; acts++) {
            KitesWar war = new KitesWar();
            war.launch(0, 40, 1, 1);
            war.keep(0);
            war.again(0);
            List<Integer> row = new ArrayList<>();
            int next = 0;
            for (int round = 0; round < 5; round++) {
                for (int i = 0; i < acts; i++) {
                    row.add(war.kite(0, 1));
                    war.run(0, next++ % 40);
                }
                for (int i = 0; i < acts / 2 && !row.isEmpty(); i++) {
                    if (row.size() > 16) {
                        row = new ArrayList<>(row.subList(row.size() - 16, row.size()));
                    }
                    int was = row.remove(row.size() - 1);
                    CHECK.due("undo", war.undo(), row.size());
                    CHECK.due("stake", war.kite(0, 1), was);
                }
            }
            CHECK.due("acts in the row", war.count(5), Math.min(16, row.size()));
        }
    }

    private static void seenFills() {
        KitesWar war = Check.warOf(CALM + "K0001055K0100055K0200055K0300055");
        for (int round = 0; round < 2; round++) {
            CHECK.due("nothing is seen", war.count(6), 0);
            for (int i = 1; i <= 8; i++) {
                CHECK.due("see", war.see(i % 3, 3, true), i);
                CHECK.due("count(6)", war.count(6), i);
            }
            CHECK.due("a ninth one", war.see(0, 1, true), FULL);
            CHECK.due("a ninth one, seen already", war.see(1, 3, true), FULL);
            CHECK.due("still 8", war.count(6), 8);
            CHECK.due("unsee", war.unsee(), 8);
            CHECK.due("unsee again", war.unsee(), 0);
        }
        // The eighth counts, the ninth does not.
        for (int i = 1; i <= 7; i++) {
            war.see(0, 1, true);
        }
        int rows = war.fits();
        CHECK.isTrue("there are rows", rows > 0);
        war.see(0, 1, false);
        CHECK.due("the eighth is against the first", war.fits(), 0);
        war.unsee();
        for (int i = 1; i <= 8; i++) {
            war.see(0, 1, true);
        }
        war.see(0, 1, false);
        CHECK.due("the ninth is not taken", war.fits(), rows);
    }

    /** "As many as there are of them": one row without kites, 9 times as many for each of 0 to 3. */
    private static void rowsOfHeights() {
        KitesWar war = new KitesWar();
        int[] rows = {1, 9, 81, 729, 6561, 6561, 6561, 6561, 6561};
        for (int kites = 0; kites <= 8; kites++) {
            CHECK.due("rows of " + kites, war.fits(), rows[kites]);
            if (kites < 8) {
                war.launch(0, kites, 5, 5);
            }
        }
        for (int k = 0; k < 4; k++) {
            CHECK.due("least", war.height(k, false), 1);
            CHECK.due("greatest", war.height(k, true), 9);
        }
    }

    private static void slots() {
        KitesWar war = Check.warOf("W603333333K0404019");
        war.keep(0);
        war.launch(1, 0, 2, 0);
        war.wind(1, -3);
        CHECK.due("keep the other slot", war.keep(1), 2);
        CHECK.due("the row stays when one keeps", war.count(5), 1);
        CHECK.due("keep over it", war.keep(1), 2);
        CHECK.due("again 0", war.again(0), 1);
        CHECK.due("wind of slot 0", war.wind(1, 0), 6);
        CHECK.due("the row is empty", war.count(5), 0);
        CHECK.due("again 1", war.again(1), 2);
        CHECK.due("wind of slot 1", war.wind(1, 0), 0);
        CHECK.due("what was put behind it is not kept", war.again(0), 1);
        CHECK.due("wind of slot 0 again", war.wind(1, 0), 6);
        war.gust();
        CHECK.due("a refused war leaves slots and row", war.count(5), 1);
        war.write(1, 'x');
        CHECK.due("war", war.war(), STATE);
        CHECK.due("again 1", war.again(1), 2);
        war.wipe();
        Check.write(war, CALM);
        CHECK.due("a war without kites", war.war(), 0);
        CHECK.due("what was kept is gone", war.again(0), STATE);
        CHECK.due("what was kept is gone", war.again(1), STATE);
        CHECK.due("keep none", war.keep(1), 0);
        CHECK.due("none is something that was kept", war.again(1), 0);
        CHECK.due("the other slot is empty", war.again(0), STATE);
    }

    private static BigInteger step(BigInteger x) {
        return x.multiply(new BigInteger("6364136223846793005")).add(new BigInteger("1442695040888963407"))
                .mod(BigInteger.ONE.shiftLeft(64));
    }

    private static BigInteger unsigned(long v) {
        return new BigInteger(Long.toUnsignedString(v));
    }

    private static final long[] SEEDS = {0, 1, -1, Long.MAX_VALUE, Long.MIN_VALUE, 1L << 33, (1L << 33) - 1, -(1L << 33)};

    private static void seedWraps() {
        KitesWar war = new KitesWar();
        long was = 0;
        for (long seed : SEEDS) {
            CHECK.due("seed(" + seed + ")", war.seed(seed), was);
            war.autumn(1, 3);
            BigInteger x = unsigned(seed);
            for (int i = 0; i < 27; i++) {
                x = step(x);
            }
            was = x.longValue();
        }
        CHECK.due("the last seed", war.seed(0), was);
    }

    /** Winds of each gust by big numbers, put by hand on a second object. */
    private static void autumnByBigNumbers() {
        String text = CALM + "K0101039K1121231K0202046K1222255K0303068K1323287K0050592K1070773";
        int all = 0;
        for (long seed : SEEDS) {
            for (int town = 0; town <= 1; town++) {
                KitesWar war = Check.warOf(text);
                KitesWar hand = Check.warOf(text);
                war.seed(seed);
                BigInteger x = unsigned(seed);
                for (int h = 1; h <= 9; h++) {
                    x = step(x);
                    hand.wind(h, x.shiftRight(33).mod(BigInteger.valueOf(7)).intValue() - 3);
                }
                hand.gust();
                CHECK.due("autumn(" + town + ", 1) of " + seed, war.autumn(town, 1), hand.count(3 + town));
                all += hand.count(3 + town);
            }
        }
        CHECK.isTrue("streets were won in them", all > 0);
    }

    /** "An object is used for at most 512 calls": the last ones are answered like the first. */
    private static void callsOfOneObject() {
        KitesWar war = new KitesWar();
        war.launch(0, 40, 1, 9);
        war.run(0, 0);
        for (int i = 1; i <= 254; i++) {
            CHECK.due("launch", war.launch(1, 20, 5, 1), 1);
            CHECK.due("gust", war.gust(), 2);
        }
        CHECK.due("call 511: streets", war.count(3), 254);
        CHECK.due("call 512: acts", war.count(5), 16);
        war = new KitesWar();
        for (int i = 0; i < 510; i++) {
            war.autumn(i % 2, 20);
        }
        BigInteger x = BigInteger.ZERO;
        for (int i = 0; i < 510 * 180; i++) {
            x = step(x);
        }
        CHECK.due("call 511: the seed", war.seed(5), x.longValue());
        CHECK.due("call 512: the seed", war.seed(6), 5);
    }
}
