/** The sentences of "Terms" that name an edge, each with a test of its own; answers worked out by hand. */
public final class TermsTest {
    private static final Check CHECK = new Check();
    private static final String CALM = "W333333333";
    private static final String EIGHT = CALM + "K0001055K1011155K0021255K1031355K0041455K1051555K0061655K1404091";
    private static final int NONE = KitesWar.NONE, STATE = KitesWar.STATE;

    public static void main(String[] args) {
        faultOfEachBeginning();
        faultAtEachPlace();
        stakesAlike();
        fortyIsTaken();
        firstFaultWhateverComes();
        partsAreNumbered();
        edges();
        skyEnds();
        linesTouch();
        fractions();
        likeHeightsAlong();
        fights();
        cutAtOnce();
        streetsAreOnlyCut();
        leastPlan();
        planAtTheEnds();
        plansOfFive();
        plansAskedAgain();
        knowingThePlan();
        leadOfTonight();
        placesToLaunch();
        gustsToLaunch();
        fewestToTakeIn();
        seenOfThoseAway();
        CHECK.end();
    }

    // ==== 1

    /** "Its length, if it is only not at its end; NONE: none": every beginning of a whole text. */
    private static void faultOfEachBeginning() {
        CHECK.due("a whole text", EIGHT.length(), 74);
        for (int n = 0; n <= 74; n++) {
            boolean ended = n >= 10 && (n - 10) % 8 == 0;
            CHECK.due("fault of " + EIGHT.substring(0, n), Check.faultOf(EIGHT.substring(0, n)), ended ? NONE : n);
            KitesWar war = new KitesWar();
            Check.write(war, EIGHT.substring(0, n));
            CHECK.due("war of " + EIGHT.substring(0, n), war.war(), ended ? (n - 10) / 8 : STATE);
        }
    }

    /** "The place of the first byte": a wrong one at each place, the bytes behind it as they were. */
    private static void faultAtEachPlace() {
        for (int place = 0; place < 74; place++) {
            for (char sign : new char[] {0, '/', ':', 'X', 255}) {
                String text = EIGHT.substring(0, place) + sign + EIGHT.substring(place + 1);
                CHECK.due("fault of " + text, Check.faultOf(text), place);
            }
        }
        // The least and the greatest figure of each place, and the next ones.
        String[] ends = {"06", "01", "04", "09", "04", "09", "19", "09"};
        int[] places = {1, 11, 12, 13, 14, 15, 16, 17};
        for (int i = 0; i < places.length; i++) {
            String ahead = EIGHT.substring(0, places[i]);
            char least = ends[i].charAt(0);
            char greatest = ends[i].charAt(1);
            int taken = places[i] == 17 ? NONE : places[i] + 1;
            CHECK.due("the least at " + places[i], Check.faultOf(ahead + least), taken);
            CHECK.due("the greatest at " + places[i], Check.faultOf(ahead + greatest), taken);
            CHECK.due("below the least at " + places[i], Check.faultOf(ahead + (char) (least - 1)), places[i]);
            CHECK.due("above the greatest at " + places[i], Check.faultOf(ahead + (char) (greatest + 1)), places[i]);
        }
        CHECK.due("wind 6 at 9", Check.faultOf("W000000006"), NONE);
        CHECK.due("wind 7 at 9", Check.faultOf("W000000007"), 9);
        CHECK.due("k is no K", Check.faultOf(CALM + "k"), 10);
        CHECK.due("stake 41", Check.faultOf(CALM + "K041"), 13);
        CHECK.due("x 41", Check.faultOf(CALM + "K04041"), 15);
        CHECK.due("x 40 above stake 40", Check.faultOf(CALM + "K0404010"), NONE);
    }

    /** "No two alike": the last part's stake like that of each part ahead, in one town or two. */
    private static void stakesAlike() {
        String seven = EIGHT.substring(0, 66);
        for (int part = 0; part < 7; part++) {
            for (int town = 0; town <= 1; town++) {
                String text = seven + "K" + town + "0" + part + "4091";
                CHECK.due("fault of " + text, Check.faultOf(text), 69);
            }
        }
        CHECK.due("a stake that none has", Check.faultOf(seven + "K0074091"), NONE);
        CHECK.due("00 like 00", Check.faultOf(CALM + "K0000010K000"), 21);
        CHECK.due("10 is not like 01", Check.faultOf(CALM + "K0010010K0100010"), NONE);
    }

    /** "By which it can be no WAR, whatever came behind it": with 40 all that begins with 4 is gone. */
    private static void fortyIsTaken() {
        String forty = CALM + "K0400010";
        CHECK.due("the tens of another 40", Check.faultOf(forty + "K14"), 20);
        CHECK.due("the same with what is behind", Check.faultOf(forty + "K1400011"), 20);
        CHECK.due("the third part", Check.faultOf(forty + "K1000010K04"), 28);
        CHECK.due("x is not a stake", Check.faultOf(forty + "K1004010"), NONE);
        CHECK.due("3 can still be", Check.faultOf(forty + "K13"), 21);
        String seven = CALM + "K0300010K0310010K0320010K0330010K0340010K0350010K0360010";
        CHECK.due("seven of the thirties leave three", Check.faultOf(seven + "K03"), 69);
        CHECK.due("37 is one of these", Check.faultOf(seven + "K037"), 70);
        CHECK.due("36 is none", Check.faultOf(seven + "K036"), 69);
    }

    private static void firstFaultWhateverComes() {
        CHECK.due("two faults", Check.faultOf("W9" + "333333339"), 1);
        CHECK.due("a fault, then a war", Check.faultOf("x" + CALM), 0);
        CHECK.due("a war, then a war", Check.faultOf(CALM + CALM), 10);
        CHECK.due("a fault in the head, and alike stakes", Check.faultOf("W333337333K0000010K0000010"), 6);
        CHECK.due("alike stakes, then a fault", Check.faultOf(CALM + "K0000010K000x"), 21);
    }

    private static void partsAreNumbered() {
        KitesWar war = Check.warOf(EIGHT);
        int[] stakes = {0, 1, 2, 3, 4, 5, 6, 40};
        for (int k = 0; k < 8; k++) {
            CHECK.due("stake of " + k, war.kite(k, 1), stakes[k]);
            CHECK.due("x of " + k, war.kite(k, 2), k == 7 ? 40 : 10 + k);
            CHECK.due("town of " + k, war.kite(k, 0), k % 2);
        }
    }

    /** "Its GLASS times (WIND at its HEIGHT without sign, and 1)": every wind, every glass. */
    private static void edges() {
        for (int glass = 0; glass <= 9; glass++) {
            KitesWar war = new KitesWar();
            war.launch(0, 0, 9, glass);
            for (int w = -3; w <= 3; w++) {
                war.wind(9, w);
                CHECK.due("edge of glass " + glass + " in " + w, war.kite(0, 5), glass * (1 + (w < 0 ? -w : w)));
            }
            war.wind(9, 0);
            war.wind(8, 3);
            CHECK.due("the wind at another height is no matter", war.kite(0, 5), glass);
        }
    }

    /** "To 0 at least, 40 at most": from every x in every wind. */
    private static void skyEnds() {
        for (int x = 0; x <= 40; x++) {
            for (int w = -3; w <= 3; w++) {
                String tens = (x < 10 ? "0" : "") + x;
                KitesWar war = Check.warOf(CALM + "K020" + tens + "90");
                war.wind(9, w);
                war.gust();
                int want = x + w < 0 ? 0 : x + w > 40 ? 40 : x + w;
                CHECK.due("x " + x + " in wind " + w, war.kite(0, 2), want);
            }
        }
        KitesWar war = Check.warOf("W033333333K0200110");
        war.gust();
        war.gust();
        CHECK.due("it stays at 0", war.kite(0, 2), 0);
        war.wind(1, 2);
        war.gust();
        CHECK.due("and comes back", war.kite(0, 2), 2);
    }

    private static void crosses(String parts, int want) {
        KitesWar war = Check.warOf(CALM + parts);
        CHECK.due("cross of " + parts, war.cross(0, 1), want);
        CHECK.due("cross the other way of " + parts, war.cross(1, 0), want);
        CHECK.due("tangle of " + parts, war.tangle(), want);
        CHECK.due("along of " + parts, war.along(0, 0), want == 1 ? 1 : NONE);
        CHECK.due("where of " + parts, war.where(0, 1, true, true) == STATE ? 0 : 1, want);
    }

    /** "A point in common": a kite on a line, a kite at a kite, and one step beside either. */
    private static void linesTouch() {
        // The line of 0 is straight up from 10 to height 9; kite 1 of stake 20 comes to it.
        crosses("K0101090K1201010", 1);
        crosses("K0101090K1201110", 0);
        crosses("K0101090K1200910", 1);
        crosses("K0101090K1201090", 1);
        crosses("K0101080K1201090", 0);
        crosses("K0101080K1200990", 0);
        crosses("K0101080K1200890", 1);
        crosses("K0101010K1201020", 0);
        crosses("K0101020K1201010", 1);
        // At the least height and the greatest, from end to end of the sky.
        crosses("K0004010K1400010", 1);
        crosses("K0004090K1400090", 1);
        crosses("K0004010K1400090", 1);
        crosses("K0000010K1010010", 1);
        crosses("K0000010K1010110", 0);
        crosses("K0000020K1010010", 1);
        crosses("K0000010K1010020", 0);
        // Kite 0 on the line of 1, which goes from 12 to 0 at height 6: 8 at height 2.
        crosses("K0060820K1120060", 1);
        crosses("K0060720K1120060", 0);
        crosses("K0060830K1120060", 1);
        crosses("K0060810K1120060", 0);
    }

    private static void at(String parts, int high, int above, int below) {
        KitesWar war = Check.warOf(CALM + parts);
        for (int a = 0; a <= 1; a++) {
            CHECK.due("above, of " + parts, war.where(a, 1 - a, high == 1, true), above);
            CHECK.due("below, of " + parts, war.where(a, 1 - a, high == 1, false), below);
        }
    }

    /** "Told above, below (1 and more), in least terms". */
    private static void fractions() {
        // Nothing above: 0 over 1. From 0 straight up, from 40 to x 0 at height 1.
        at("K0000090K1400010", 0, 0, 1);
        at("K0000090K1400010", 1, 1, 1);
        // A whole number over 1: the end of the sky.
        at("K0404090K1004010", 0, 40, 1);
        at("K0404090K1004010", 1, 1, 1);
        // 4 over 8 is 1 over 2: from 0 to (8, 1), from 8 to (0, 1).
        at("K0000810K1080010", 1, 1, 2);
        at("K0000810K1080010", 0, 4, 1);
        // x = 40y/9 and x = 39 - 39y/8: y = 39 / (40/9 + 39/8) = 2808/671, x = 12480/671; 671 is 11 times 61.
        at("K0004090K1390080", 1, 2808, 671);
        at("K0004090K1390080", 0, 12480, 671);
        // Both go the same way, 0 more so: x = 30y/9 and x = 1 + 29y/9: y = 9, x = 30, kite at kite.
        at("K0003090K1013090", 1, 9, 1);
        at("K0003090K1013090", 0, 30, 1);
        // x = 40 - 40y/9 and x = 39 - 20y/9: y = 9/20, x = 38.
        at("K0400090K1391990", 1, 9, 20);
        at("K0400090K1391990", 0, 38, 1);
    }

    // ==== 2

    /** "By how high they do, the lowest first; of like ones the least KITE." */
    private static void likeHeightsAlong() {
        // At x 10: 1 at 9, 2 at 4, 3 at 4, 4 at 1, 5 at 9.
        KitesWar war = Check.warOf(CALM + "K0101090K0251090K1200080K0150580K1301010K0401090");
        int[] want = {4, 2, 3, 1, 5, NONE};
        for (int i = 0; i < want.length; i++) {
            CHECK.due("along(0, " + i + ")", war.along(0, i), want[i]);
        }
        // Fractions, not whole numbers: from 14 to (6, 7) and from 13 to (7, 5).
        war = Check.warOf(CALM + "K0101090K1140670K0130750");
        CHECK.due("1 crosses at 7/2", war.where(0, 1, true, true) * 10 + war.where(0, 1, true, false), 72);
        CHECK.due("2 crosses at 5/2", war.where(0, 2, true, true) * 10 + war.where(0, 2, true, false), 52);
        CHECK.due("the lower one first", war.along(0, 0), 2);
        CHECK.due("then the higher one", war.along(0, 1), 1);
    }

    /** "That of greater EDGE cuts the other one (alike: neither)." */
    private static void fights() {
        // All at one place and height: glass alone counts.
        int[][] glasses = {{0, 0, 0}, {0, 1, 1}, {1, 0, 2}, {5, 5, 0}, {8, 9, 1}, {9, 8, 2}, {9, 9, 0}};
        for (int[] g : glasses) {
            KitesWar war = Check.warOf(CALM + "K0001051K1201051");
            war.takeIn(0);
            war.takeIn(0);
            war.launch(0, 10, 5, g[0]);
            war.launch(1, 20, 5, g[1]);
            war.run(0, 30);
            CHECK.due("they cross", war.cross(0, 1), 1);
            CHECK.due("glass " + g[0] + " against " + g[1], war.gust(), g[2]);
        }
        // Edges alike by unlike glass: 2 in wind 3 is 8, 8 in a calm is 8; 9 in it is more, 7 less.
        for (int glass = 7; glass <= 9; glass++) {
            KitesWar war = Check.warOf("W333333336K0001092K110005" + glass);
            CHECK.due("8 against " + glass, war.gust(), glass == 8 ? 0 : glass == 7 ? 2 : 1);
        }
    }

    /** "All that are cut are away at once (those behind them are fewer by so many)." */
    private static void cutAtOnce() {
        KitesWar war = Check.warOf(CALM + "K0001055K1011057K0021059K1031053K0041051K1051057K0061059K1404099");
        CHECK.due("all but 2, 6 (the strongest) and 7 (which none crosses)", war.gust(), 0b00111011);
        CHECK.due("three are left", war.count(1), 3);
        int[] stakes = {2, 6, 40};
        for (int k = 0; k < 3; k++) {
            CHECK.due("stake of " + k, war.kite(k, 1), stakes[k]);
        }
        CHECK.due("town 0 won three: 1, 3, 5", war.count(3), 3);
        CHECK.due("town 1 won two: 0, 4", war.count(4), 2);
        CHECK.due("after(0, 1) asks from now on", war.after(0, 1), 0);
        CHECK.due("undo", war.undo(), 0);
        CHECK.due("all eight", war.count(1), 8);
        CHECK.due("after(0, 1)", war.after(0, 1), 3);
        CHECK.due("after(1, 1)", war.after(1, 1), 2);
        CHECK.due("after(0, 0)", war.after(0, 0), 0);
        CHECK.due("after(1, 0)", war.after(1, 0), 0);
    }

    private static void streetsAreOnlyCut() {
        KitesWar war = Check.warOf(CALM + "K0002059K1200051");
        war.takeIn(1);
        CHECK.due("what is taken in is no street", war.count(3), 0);
        CHECK.due("nor is it in a gust", war.gust(), 0);
        CHECK.due("town 0", war.count(3), 0);
        CHECK.due("town 1", war.count(4), 0);
    }

    private static void plan(String text, int want, String changes) {
        KitesWar war = Check.warOf(text);
        CHECK.due("tonight(0) of " + text, war.tonight(0), want);
        for (int i = 0; i < changes.length(); i++) {
            CHECK.due("tonightAt(0, " + i + ") of " + text, war.tonightAt(0, i), changes.charAt(i) - '0');
        }
    }

    /** "Of like ones the plan with the least change of the first KITE of it, then of the next one." */
    private static void leastPlan() {
        // Either cuts the same one: 0 if it stays, 1 if it goes up. The first goes down, so the next goes up.
        plan("W330363333K0101059K0141429K1121281", 101, "02");
        // The same with 1 if it stays or goes up.
        plan("W300363333K0101059K0141429K1121281", 101, "01");
        // The same, told in the other order: first the one that must stay, then the other one.
        plan("W330363333K0141429K0101059K1121281", 101, "01");
        // Nothing to win, nothing to lose.
        plan(CALM + "K0101059K0141429K1303081", 100, "00");
    }

    /** "Down at HEIGHT 1, up at 9 it stays there; the plan is told so all the same." */
    private static void planAtTheEnds() {
        // At height 1 the wind blows it over: down, which is to stay, does it and is told.
        plan("W633333333K0101019K1121251", 101, "0");
        // At height 2 it does not: only up does it.
        plan("W363333333K0101019K1121251", 101, "2");
        // At 9: down does not, stay does (as up would).
        plan("W333333336K0101099K1121281", 101, "1");
        plan("W333333363K0101099K1121291", 101, "0");
        // One of the other town at height 1 stays for town 0, and at 9.
        plan("W633333333K0101059K1090911", 101, "0");
        plan("W333333336K0101059K1090991", 101, "0");
    }

    /** "Each of its KITES (5 at most)": five against three; FOR SURE, "5 KITES at most, too". */
    private static void plansOfFive() {
        String five = "K0004099K0014099K0024099K0034099K0044099";
        String three = "K1380051K1390051K1400051";
        KitesWar war = Check.warOf(CALM + five + three);
        CHECK.due("tonight(0)", war.tonight(0), 103);
        CHECK.due("tonight(1)", war.tonight(1), 97);
        CHECK.due("forSure(0)", war.forSure(0), 103);
        CHECK.due("forSure(1)", war.forSure(1), 97);
        CHECK.due("tonightAt(0, 4)", war.tonightAt(0, 4), 0);
        CHECK.due("tonightAt(1, 2)", war.tonightAt(1, 2), 0);
        CHECK.due("tonightAt(1, 3)", war.tonightAt(1, 3), NONE);
        war.takeIn(7);
        war.launch(0, 20, 5, 5);
        CHECK.due("six", war.count(2), 6);
        CHECK.due("tonight(0) of six", war.tonight(0), STATE);
        CHECK.due("tonight(1) against six", war.tonight(1), 98);
        CHECK.due("forSure(0) of six", war.forSure(0), STATE);
        CHECK.due("forSure(1) against six", war.forSure(1), STATE);
        CHECK.due("undo: five again", war.undo(), 1);
        CHECK.due("tonight(0)", war.tonight(0), 102);
        CHECK.due("forSure(1)", war.forSure(1), 98);
        KitesWar other = Check.warOf(CALM + five.replace("K0", "K1") + three.replace("K1", "K0"));
        CHECK.due("the towns the other way round: forSure(1)", other.forSure(1), 103);
        CHECK.due("forSure(0)", other.forSure(0), 97);
        other.takeIn(7);
        other.launch(1, 20, 5, 5);
        CHECK.due("forSure(0) against six", other.forSure(0), STATE);
        CHECK.due("forSure(1) of six", other.forSure(1), STATE);
        CHECK.due("tonight(1) of six", other.tonight(1), STATE);
        CHECK.due("tonightAt(1, 5) of six", other.tonightAt(1, 5), STATE);
    }

    /** The same where those that cut are told last, and where the same object is asked again. */
    private static void plansAskedAgain() {
        KitesWar war = Check.warOf(CALM + "K1370051K1380051K1390051K1400051K0004099K0014099K0024099K0034099");
        CHECK.due("tonight(0)", war.tonight(0), 104);
        CHECK.due("forSure(1)", war.forSure(1), 96);
        for (int k = 7; k > 4; k--) {
            war.takeIn(k);
            CHECK.due("one strong one is enough", war.tonight(0), 104);
            CHECK.due("and for sure", war.forSure(0), 104);
        }
        war.takeIn(4);
        CHECK.due("none is left to cut", war.tonight(0), 100);
        war.launch(0, 20, 5, 1);
        CHECK.due("the next one of that number has no greater edge", war.tonight(0), 100);
        CHECK.due("nor for sure", war.forSure(0), 100);
        CHECK.due("nor the other town", war.forSure(1), 100);
    }

    /**
     * "What is worst for it, knowing the plan": streets for town 0 by its change (down, stay, up) and
     * the other one's are 1 0 0, 1 1 0, -1 -1 1, so it is sure of 0, though each answer loses to some plan.
     */
    private static void knowingThePlan() {
        KitesWar war = Check.warOf("W333012333K0101057K1111055");
        int[][] streets = {{1, 0, 0}, {1, 1, 0}, {-1, -1, 1}};
        for (int own = 0; own < 3; own++) {
            for (int other = 0; other < 3; other++) {
                KitesWar one = Check.warOf("W333012333K0101057K1111055");
                one.rise(0, own - 1);
                one.rise(1, other - 1);
                one.gust();
                CHECK.due("streets of " + own + ", " + other, one.count(3) - one.count(4), streets[own][other]);
            }
        }
        CHECK.due("tonight(0): the other one stays", war.tonight(0), 101);
        CHECK.due("by stay", war.tonightAt(0, 0), 1);
        CHECK.due("forSure(0)", war.forSure(0), 100);
        CHECK.due("forSure(1)", war.forSure(1), 99);
    }

    /** "STREETS it WON less those the other one WON": both count, those won before do not. */
    private static void leadOfTonight() {
        // 0 cuts 1 and is cut by 2 whatever it does.
        KitesWar war = Check.warOf(CALM + "K0002055K1200051K1210059");
        CHECK.due("one won, one lost", war.tonight(0), 100);
        CHECK.due("the same for the other town", war.tonight(1), 100);
        CHECK.due("for sure, too", war.forSure(0), 100);
        CHECK.due("gust", war.gust(), 3);
        war.launch(0, 40, 5, 0);
        war.run(1, 0);
        CHECK.due("one more is lost", war.tonight(0), 99);
        CHECK.due("one more is won", war.tonight(1), 101);
        CHECK.due("for sure", war.forSure(1), 101);
        CHECK.due("after", war.after(1, 20), 1);
    }

    /** "A STAKE (no KITE has) and a HEIGHT, the KITE above its STAKE; of like ones the least STAKE, then HEIGHT." */
    private static void placesToLaunch() {
        KitesWar war = new KitesWar();
        for (int k = 0; k < 7; k++) {
            CHECK.due("the least stake that is free", war.toLaunch(1, 0, 1), 10 * k + 1);
            war.launch(0, k, 1, 0);
        }
        CHECK.due("with seven kites", war.toLaunch(1, 0, 5), 71);
        // The line from 30 to 40 at height 2 goes at 31 through 1/5: met from height 1 on.
        war = Check.warOf(CALM + "K1304021");
        CHECK.due("the least height that meets it", war.toLaunch(0, 9, 1), 311);
        // To 31 at height 9: at 31 it is met at height 9 alone.
        war = Check.warOf(CALM + "K1303191");
        CHECK.due("at the kite itself", war.toLaunch(0, 9, 1), 319);
        CHECK.due("of like edge: nothing", war.toLaunch(0, 1, 1), 1);
        // 31 is taken by one too weak: the next place that meets it is none.
        war = Check.warOf(CALM + "K1303191K0313111");
        CHECK.due("that stake is not free", war.toLaunch(0, 9, 1), 1);
        war.run(1, 32);
        CHECK.due("where its boy ran from it is free", war.toLaunch(0, 9, 1), 319);
    }

    /** "Behind n GUSTS (1 to 5)": the same by hand, each place launched on an object of its own. */
    private static void gustsToLaunch() {
        String[] texts = {"W625341036K1051019K0202055K1303032", "W306142536K1101099K1121224K0313177K1353511",
            "W153624063K0060644K1090931K1151587K0202022K1252565K0353591K1393914"};
        for (String text : texts) {
            for (int n = 1; n <= 5; n++) {
                for (int town = 0; town <= 1; town++) {
                    CHECK.due("toLaunch(" + town + ", 5, " + n + ") of " + text,
                            Check.warOf(text).toLaunch(town, 5, n), bestPlace(text, town, n));
                }
            }
        }
    }

    private static int bestPlace(String text, int town, int n) {
        int most = -99;
        int place = 0;
        for (int stake = 0; stake <= 40; stake++) {
            for (int height = 1; height <= 9; height++) {
                KitesWar war = Check.warOf(text);
                if (war.launch(town, stake, height, 5) < 0) {
                    continue;
                }
                for (int g = 0; g < n; g++) {
                    war.gust();
                }
                int lead = war.count(3 + town) - war.count(4 - town);
                if (lead > most) {
                    most = lead;
                    place = 10 * stake + height;
                }
            }
        }
        return place;
    }

    /** "The fewest KITES without which none CROSS; of like ones the least set." */
    private static void fewestToTakeIn() {
        // One crosses the other seven, which do not cross: it alone, whichever number it has.
        String seven = "K0050590K0070790K0090990K0111190K0131390K0151590K0171790";
        for (int place = 0; place <= 7; place++) {
            String parts = seven.substring(0, 8 * place) + "K1004010" + seven.substring(8 * place);
            KitesWar war = Check.warOf(CALM + parts);
            CHECK.due("seven pairs", war.tangle(), 7);
            CHECK.due("the one of them all", war.toTakeIn(), 1 << place);
            war.takeIn(place);
            CHECK.due("without it none cross", war.tangle(), 0);
            CHECK.due("and none is to be taken in", war.toTakeIn(), 0);
        }
        // 0 crosses 1 and 2, 2 crosses 3, too; 4 crosses 5, 6 crosses 7. {0, 2}, {0, 3}, {1, 2} would do for the first four.
        KitesWar war = Check.warOf(CALM + "K0000150K1010050K0100150K0051050K1151450K0141550K1202150K1212050");
        CHECK.due("pairs", war.tangle(), 5);
        CHECK.due("the least set of the fewest", war.toTakeIn(), 0b01010101);
    }

    // ==== 3

    /** "Of what is SEEN of a KITE that is not there any more nothing is looked at", and a pair is its numbers. */
    private static void seenOfThoseAway() {
        KitesWar war = Check.warOf(CALM + "K0000055K0101055K0202055K0303055");
        war.see(2, 3, true);
        CHECK.due("straight lines never cross", war.fits(), 0);
        war.takeIn(0);
        CHECK.due("3 is away", war.fits(), 729);
        CHECK.due("it stays seen", war.count(6), 1);
        war.takeIn(0);
        CHECK.due("2 and 3 are away", war.fits(), 81);
        war.takeIn(0);
        war.takeIn(0);
        CHECK.due("all are away", war.fits(), 1);
        war.launch(0, 0, 1, 1);
        war.launch(0, 1, 1, 1);
        war.launch(0, 2, 1, 1);
        CHECK.due("2 is there, 3 is not", war.fits(), 729);
        war.launch(0, 3, 1, 1);
        CHECK.due("both are there again", war.fits(), 0);
        war.see(2, 3, false);
        war.unsee();
        CHECK.due("nothing is seen", war.fits(), 6561);
        // Only the pair that is told is looked at: 1 and 2 always cross, 0 crosses neither.
        war = Check.warOf(CALM + "K0000055K0102055K0201055K0404055");
        war.see(2, 1, true);
        CHECK.due("1 and 2", war.fits(), 6561);
        war.see(1, 3, false);
        CHECK.due("1 and 3 never", war.fits(), 6561);
        war.see(1, 2, false);
        CHECK.due("1 and 2 always", war.fits(), 0);
        // A pair stays its numbers: taken in ahead of them, it is the next ones that are looked at.
        war = Check.warOf(CALM + "K0000055K0101055K0200055");
        war.see(0, 1, true);
        CHECK.due("0 and 1 never cross", war.fits(), 0);
        war.takeIn(0);
        CHECK.due("10 straight up, 20 to 0: all but those out of reach", war.fits(), 81 - outOfReach());
        CHECK.due("see of one that is away", war.see(0, 2, true), KitesWar.UNKNOWN);
    }

    /** The line from 20 to (0, a) is at a/2 above 10: the one up to b is not met if b is lower. */
    private static int outOfReach() {
        int rows = 0;
        for (int a = 1; a <= 9; a++) {
            for (int b = 1; b <= 9; b++) {
                rows += 2 * b < a ? 1 : 0;
            }
        }
        return rows;
    }
}
