/** War by kites between two towns; ../shared/DOC.md tells each promise by its number. */
public final class KitesWar {
    public static final int UNKNOWN = -1, OUTSIDE = -2, STATE = -3, FULL = -4, NONE = -9;

    private static final int TOWNS = 2, SLOTS = 2;
    private static final int MOST_KITES = 8, MOST_X = 40, TOP = 9, MOST_GLASS = 9;
    private static final int STRONGEST = 3, WINDS = 7;
    private static final int MOST_ACTS = 16, MOST_SEEN = 8, SEEN_KITES = 4;
    private static final int MOST_GUSTS = 20, MOST_GUSTS_TO_LAUNCH = 5;
    private static final int MOST_WRITTEN = 8;
    /** Beyond every lead that a town can have in streets, as no more kites than 8 can be cut. */
    private static final int BEYOND = 100;
    private static final long SEED_FACTOR = 6364136223846793005L, SEED_STEP = 1442695040888963407L;

    private final Text text = new Text();
    private final Sky now = new Sky();
    private final Sky trial = new Sky();
    private final Acts acts = new Acts();
    private final Slot[] slots = new Slot[SLOTS];
    private final Plans plans = new Plans();
    private final Seen seen = new Seen();
    private final Tangle knot = new Tangle();
    private long theSeed = 0;

    public KitesWar() {
        for (int s = 0; s < SLOTS; s++) {
            slots[s] = new Slot();
        }
    }

    // ---- the war

    public int write(int n, long v) {
        if (n < 1 || n > MOST_WRITTEN) {
            return OUTSIDE;
        }
        return text.append(n, v) ? text.length : FULL;
    }

    public int wipe() {
        int was = text.length;
        text.length = 0;
        return was;
    }

    public int fault() {
        return text.firstFault();
    }

    public int war() {
        if (text.firstFault() != NONE) {
            return STATE;
        }
        text.loadInto(now);
        acts.clear();
        for (int s = 0; s < SLOTS; s++) {
            slots[s].used = false;
        }
        return now.fleet.kites;
    }

    public int kite(int kite, int what) {
        if (!isKite(kite)) {
            return UNKNOWN;
        }
        Fleet fleet = now.fleet;
        switch (what) {
            case 0: return fleet.town[kite];
            case 1: return fleet.stake[kite];
            case 2: return fleet.x[kite];
            case 3: return fleet.height[kite];
            case 4: return fleet.glass[kite];
            case 5: return now.edge(kite);
            default: return OUTSIDE;
        }
    }

    public int wind(int height, int w) {
        if (!isHeight(height) || !isWithin(w, -STRONGEST, STRONGEST)) {
            return OUTSIDE;
        }
        int was = now.wind[height];
        now.wind[height] = w;
        return was + STRONGEST;
    }

    // ---- acts

    public int rise(int kite, int n) {
        if (!isKite(kite)) {
            return UNKNOWN;
        }
        // n is looked at first, as a huge one would wrap in the sum.
        if (!isWithin(n, 1 - TOP, TOP - 1) || !isHeight(now.fleet.height[kite] + n)) {
            return OUTSIDE;
        }
        acts.remember(now.fleet);
        now.fleet.height[kite] += n;
        return now.fleet.height[kite];
    }

    public int run(int kite, int stake) {
        if (!isKite(kite)) {
            return UNKNOWN;
        }
        if (!isStake(stake)) {
            return OUTSIDE;
        }
        if (now.fleet.hasStake(stake)) {
            return STATE;
        }
        acts.remember(now.fleet);
        int was = now.fleet.stake[kite];
        now.fleet.stake[kite] = stake;
        return Math.abs(stake - was);
    }

    public int launch(int town, int stake, int height, int glass) {
        if (!isTown(town) || !isStake(stake) || !isHeight(height) || !isGlass(glass)) {
            return OUTSIDE;
        }
        if (now.fleet.hasStake(stake)) {
            return STATE;
        }
        if (now.fleet.kites >= MOST_KITES) {
            return FULL;
        }
        acts.remember(now.fleet);
        now.fleet.add(town, stake, stake, height, glass);
        return now.fleet.kites - 1;
    }

    public int takeIn(int kite) {
        if (!isKite(kite)) {
            return UNKNOWN;
        }
        acts.remember(now.fleet);
        now.fleet.drop(1 << kite);
        return now.fleet.kites;
    }

    public int gust() {
        acts.remember(now.fleet);
        return now.blow();
    }

    public int undo() {
        return acts.takeBack(now.fleet) ? acts.size : STATE;
    }

    // ---- lines

    public int cross(int kite, int other) {
        int refusal = refusalOfPair(kite, other);
        if (refusal != 0) {
            return refusal;
        }
        return now.fleet.meet(kite, other) ? 1 : 0;
    }

    public int where(int kite, int other, boolean high, boolean upper) {
        int refusal = refusalOfPair(kite, other);
        if (refusal != 0) {
            return refusal;
        }
        if (!now.fleet.meet(kite, other)) {
            return STATE;
        }
        int above = high ? now.fleet.meetingHeight(kite, other) : now.fleet.meetingX(kite, other);
        int below = now.fleet.meetingBelow(kite, other);
        int divisor = greatestDivisor(above, below);
        if (divisor < 1) {
            return STATE;
        }
        return (upper ? above : below) / divisor;
    }

    public int along(int kite, int i) {
        return isKite(kite) ? knot.nthAlong(now.fleet, kite, i) : UNKNOWN;
    }

    public int tangle() {
        return knot.pairs(now.fleet);
    }

    public int toTakeIn() {
        return knot.fewest(now.fleet);
    }

    // ---- plans

    public int after(int town, int n) {
        if (!isTown(town) || !isWithin(n, 0, MOST_GUSTS)) {
            return OUTSIDE;
        }
        trial.copyFrom(now);
        trial.blowTimes(n);
        return wonInTrial(town);
    }

    public int tonight(int town) {
        int refusal = refusalOfPlan(town);
        if (refusal != 0) {
            return refusal;
        }
        return plans.best(now, town, false) + 100;
    }

    public int tonightAt(int town, int i) {
        if (i < 0) {
            return OUTSIDE;
        }
        int refusal = refusalOfPlan(town);
        if (refusal != 0) {
            return refusal;
        }
        if (i >= now.fleet.ofTown(town)) {
            return NONE;
        }
        plans.best(now, town, false);
        return plans.bestChange(i);
    }

    public int forSure(int town) {
        int refusal = refusalOfPlan(town);
        if (refusal != 0) {
            return refusal;
        }
        if (now.fleet.ofTown(1 - town) > Plans.MOST) {
            return STATE;
        }
        return plans.best(now, town, true) + 100;
    }

    public int toLaunch(int town, int glass, int n) {
        if (!isTown(town) || !isGlass(glass) || !isWithin(n, 1, MOST_GUSTS_TO_LAUNCH)) {
            return OUTSIDE;
        }
        if (now.fleet.kites >= MOST_KITES) {
            return FULL;
        }
        int most = -BEYOND;
        int place = 0;
        for (int stake = 0; stake <= MOST_X; stake++) {
            if (now.fleet.hasStake(stake)) {
                continue;
            }
            for (int height = 1; height <= TOP; height++) {
                trial.copyFrom(now);
                trial.fleet.add(town, stake, stake, height, glass);
                trial.blowTimes(n);
                int lead = wonInTrial(town) - wonInTrial(1 - town);
                if (lead > most) {
                    most = lead;
                    place = 10 * stake + height;
                }
            }
        }
        return place;
    }

    // ---- seen, autumns

    public int see(int kite, int other, boolean crosses) {
        if (!isSeenKite(kite) || !isSeenKite(other)) {
            return UNKNOWN;
        }
        if (kite == other) {
            return OUTSIDE;
        }
        return seen.add(kite, other, crosses) ? seen.size : FULL;
    }

    public int unsee() {
        int was = seen.size;
        seen.size = 0;
        return was;
    }

    public int fits() {
        return seen.countRows(now.fleet);
    }

    public int height(int kite, boolean most) {
        if (!isSeenKite(kite)) {
            return UNKNOWN;
        }
        if (seen.countRows(now.fleet) == 0) {
            return NONE;
        }
        return most ? seen.greatest[kite] : seen.least[kite];
    }

    public long seed(long v) {
        long was = theSeed;
        theSeed = v;
        return was;
    }

    public int autumn(int town, int m) {
        if (!isTown(town) || !isWithin(m, 1, MOST_GUSTS)) {
            return OUTSIDE;
        }
        trial.copyFrom(now);
        for (int g = 0; g < m; g++) {
            for (int h = 1; h <= TOP; h++) {
                theSeed = theSeed * SEED_FACTOR + SEED_STEP;
                trial.wind[h] = (int) ((theSeed >>> 33) % WINDS) - STRONGEST;
            }
            trial.blow();
        }
        return wonInTrial(town);
    }

    // ---- slots

    public int keep(int slot) {
        if (!isWithin(slot, 0, SLOTS - 1)) {
            return UNKNOWN;
        }
        slots[slot].sky.copyFrom(now);
        slots[slot].used = true;
        return now.fleet.kites;
    }

    public int again(int slot) {
        if (!isWithin(slot, 0, SLOTS - 1)) {
            return UNKNOWN;
        }
        if (!slots[slot].used) {
            return STATE;
        }
        now.copyFrom(slots[slot].sky);
        acts.clear();
        return now.fleet.kites;
    }

    public int count(int what) {
        switch (what) {
            case 0: return text.length;
            case 1: return now.fleet.kites;
            case 2: return now.fleet.ofTown(0);
            case 3: return now.fleet.won[0];
            case 4: return now.fleet.won[1];
            case 5: return acts.size;
            case 6: return seen.size;
            default: return OUTSIDE;
        }
    }

    // ---- what the calls ask of their numbers

    private static boolean isWithin(int number, int least, int greatest) {
        return number >= least && number <= greatest;
    }

    private static boolean isTown(int town) {
        return isWithin(town, 0, TOWNS - 1);
    }

    private static boolean isStake(int stake) {
        return isWithin(stake, 0, MOST_X);
    }

    private static boolean isHeight(int height) {
        return isWithin(height, 1, TOP);
    }

    private static boolean isGlass(int glass) {
        return isWithin(glass, 0, MOST_GLASS);
    }

    private boolean isKite(int kite) {
        return kite >= 0 && kite < now.fleet.kites;
    }

    private boolean isSeenKite(int kite) {
        return isKite(kite) && kite < SEEN_KITES;
    }

    /** 0 stands for no refusal, as every refusal is below 0. */
    private int refusalOfPair(int kite, int other) {
        if (!isKite(kite) || !isKite(other)) {
            return UNKNOWN;
        }
        return kite == other ? OUTSIDE : 0;
    }

    private int refusalOfPlan(int town) {
        if (!isTown(town)) {
            return OUTSIDE;
        }
        return now.fleet.ofTown(town) > Plans.MOST ? STATE : 0;
    }

    private int wonInTrial(int town) {
        return trial.fleet.won[town] - now.fleet.won[town];
    }

    /** The steps are counted so that the end is seen; 64 are far more than two ints can need. */
    private static int greatestDivisor(int a, int b) {
        int left = Math.abs(a);
        int right = Math.abs(b);
        for (int step = 0; step < 64 && right != 0; step++) {
            int rest = left % right;
            left = right;
            right = rest;
        }
        return left;
    }

    /** The bytes that were written, and how they are read as a war. */
    private static final class Text {
        static final int HEAD = 1 + TOP, PART = 8, MOST = HEAD + MOST_KITES * PART;

        private final int[] bytes = new int[MOST];
        int length = 0;

        boolean append(int n, long v) {
            if (n > MOST - length) {
                return false;
            }
            for (int i = n - 1; i >= 0; i--) {
                bytes[length] = (int) (v >>> (8 * i)) & 255;
                length++;
            }
            return true;
        }

        int firstFault() {
            for (int i = 0; i < length; i++) {
                if (!mayStand(i)) {
                    return i;
                }
            }
            boolean ended = length >= HEAD && (length - HEAD) % PART == 0;
            return ended ? NONE : length;
        }

        /** Whether the byte can stand at its place behind bytes that can. */
        private boolean mayStand(int i) {
            if (i == 0) {
                return bytes[i] == 'W';
            }
            if (i < HEAD) {
                return isFigure(i, 0, WINDS - 1);
            }
            int part = (i - HEAD) / PART;
            switch ((i - HEAD) % PART) {
                case 0: return bytes[i] == 'K';
                case 1: return isFigure(i, 0, TOWNS - 1);
                case 2: return isFigure(i, 0, MOST_X / 10) && hasFreeStake(part, figure(i));
                case 3: return isFigure(i, 0, 9) && isFreeStake(part, pair(i - 1));
                case 4: return isFigure(i, 0, MOST_X / 10);
                case 5: return isFigure(i, 0, 9) && pair(i - 1) <= MOST_X;
                case 6: return isFigure(i, 1, TOP);
                default: return isFigure(i, 0, MOST_GLASS);
            }
        }

        /** Where every stake with these tens is gone, already the tens are the fault. */
        private boolean hasFreeStake(int part, int tens) {
            for (int ones = 0; ones <= 9; ones++) {
                if (isFreeStake(part, 10 * tens + ones)) {
                    return true;
                }
            }
            return false;
        }

        private boolean isFreeStake(int part, int stake) {
            if (!isStake(stake)) {
                return false;
            }
            for (int earlier = 0; earlier < part; earlier++) {
                if (pair(placeOf(earlier) + 2) == stake) {
                    return false;
                }
            }
            return true;
        }

        /** Asked only of a text without a fault. */
        void loadInto(Sky sky) {
            for (int h = 1; h <= TOP; h++) {
                sky.wind[h] = figure(h) - STRONGEST;
            }
            Fleet fleet = sky.fleet;
            fleet.clear();
            int parts = (length - HEAD) / PART;
            for (int part = 0; part < parts; part++) {
                int at = placeOf(part);
                fleet.add(figure(at + 1), pair(at + 2), pair(at + 4), figure(at + 6), figure(at + 7));
            }
        }

        private static int placeOf(int part) {
            return HEAD + part * PART;
        }

        private boolean isFigure(int i, int least, int greatest) {
            return isWithin(figure(i), least, greatest);
        }

        private int figure(int i) {
            return bytes[i] - '0';
        }

        private int pair(int i) {
            return 10 * figure(i) + figure(i + 1);
        }
    }

    /** The kites that are up, by number, and the streets that the towns have won. */
    private static final class Fleet {
        final int[] town = new int[MOST_KITES];
        final int[] stake = new int[MOST_KITES];
        final int[] x = new int[MOST_KITES];
        final int[] height = new int[MOST_KITES];
        final int[] glass = new int[MOST_KITES];
        final int[] won = new int[TOWNS];
        int kites = 0;

        void clear() {
            kites = 0;
            won[0] = 0;
            won[1] = 0;
        }

        void copyFrom(Fleet from) {
            kites = from.kites;
            System.arraycopy(from.town, 0, town, 0, kites);
            System.arraycopy(from.stake, 0, stake, 0, kites);
            System.arraycopy(from.x, 0, x, 0, kites);
            System.arraycopy(from.height, 0, height, 0, kites);
            System.arraycopy(from.glass, 0, glass, 0, kites);
            System.arraycopy(from.won, 0, won, 0, TOWNS);
        }

        void add(int itsTown, int itsStake, int itsX, int itsHeight, int itsGlass) {
            if (kites >= MOST_KITES) {
                return;
            }
            town[kites] = itsTown;
            stake[kites] = itsStake;
            x[kites] = itsX;
            height[kites] = itsHeight;
            glass[kites] = itsGlass;
            kites++;
        }

        void drop(int bits) {
            int left = 0;
            for (int k = 0; k < kites; k++) {
                if ((bits >> k & 1) == 0) {
                    town[left] = town[k];
                    stake[left] = stake[k];
                    x[left] = x[k];
                    height[left] = height[k];
                    glass[left] = glass[k];
                    left++;
                }
            }
            kites = left;
        }

        int ofTown(int which) {
            int number = 0;
            for (int k = 0; k < kites; k++) {
                if (town[k] == which) {
                    number++;
                }
            }
            return number;
        }

        boolean hasStake(int place) {
            for (int k = 0; k < kites; k++) {
                if (stake[k] == place) {
                    return true;
                }
            }
            return false;
        }

        boolean meet(int a, int b) {
            return linesMeet(stake[a], x[a], height[a], stake[b], x[b], height[b]);
        }

        /**
         * Stakes are never alike, so two lines have one point in common at most, and they have it
         * just if at the lower kite's height they are no more in the order of their stakes.
         */
        static boolean linesMeet(int stakeA, int xA, int heightA, int stakeB, int xB, int heightB) {
            int side;
            if (heightA <= heightB) {
                side = (xA - stakeB) * heightB - (xB - stakeB) * heightA;
            } else {
                side = (xA - stakeA) * heightB - (xB - stakeA) * heightA;
            }
            return Integer.signum(stakeA - stakeB) * side <= 0;
        }

        /** Where two lines that cross do so: the number below both fractions, not in least terms. */
        int meetingBelow(int a, int b) {
            return Math.abs(turn(a, b));
        }

        int meetingHeight(int a, int b) {
            return Math.abs(stake[b] - stake[a]) * height[a] * height[b];
        }

        int meetingX(int a, int b) {
            int turn = turn(a, b);
            int along = (x[a] - stake[a]) * (stake[b] - stake[a]) * height[b];
            return (stake[a] * turn + along) * Integer.signum(turn);
        }

        private int turn(int a, int b) {
            return (x[a] - stake[a]) * height[b] - (x[b] - stake[b]) * height[a];
        }
    }

    /** A fleet in its wind. */
    private static final class Sky {
        final Fleet fleet = new Fleet();
        final int[] wind = new int[TOP + 1];
        private final int[] edges = new int[MOST_KITES];

        void copyFrom(Sky from) {
            fleet.copyFrom(from.fleet);
            System.arraycopy(from.wind, 0, wind, 0, TOP + 1);
        }

        int edge(int kite) {
            return edgeAt(fleet.glass[kite], fleet.height[kite]);
        }

        int edgeAt(int glass, int height) {
            return glass * (Math.abs(wind[height]) + 1);
        }

        int blownX(int x, int height) {
            return Math.max(0, Math.min(MOST_X, x + wind[height]));
        }

        void blowTimes(int n) {
            for (int g = 0; g < n; g++) {
                blow();
            }
        }

        int blow() {
            for (int k = 0; k < fleet.kites; k++) {
                fleet.x[k] = blownX(fleet.x[k], fleet.height[k]);
            }
            int cut = fight();
            for (int k = 0; k < fleet.kites; k++) {
                if ((cut >> k & 1) != 0) {
                    fleet.won[1 - fleet.town[k]]++;
                }
            }
            fleet.drop(cut);
            return cut;
        }

        private int fight() {
            for (int k = 0; k < fleet.kites; k++) {
                edges[k] = edge(k);
            }
            int cut = 0;
            for (int a = 0; a < fleet.kites; a++) {
                for (int b = a + 1; b < fleet.kites; b++) {
                    if (fleet.town[a] != fleet.town[b] && edges[a] != edges[b] && fleet.meet(a, b)) {
                        cut |= edges[a] < edges[b] ? 1 << a : 1 << b;
                    }
                }
            }
            return cut;
        }
    }

    /** What a slot keeps. */
    private static final class Slot {
        final Sky sky = new Sky();
        boolean used = false;
    }

    /** The row of acts: each stands as the fleet ahead of it, in a ring that forgets its oldest. */
    private static final class Acts {
        private final Fleet[] ring = new Fleet[MOST_ACTS];
        private int next = 0;
        int size = 0;

        Acts() {
            for (int i = 0; i < MOST_ACTS; i++) {
                ring[i] = new Fleet();
            }
        }

        void clear() {
            size = 0;
        }

        void remember(Fleet fleet) {
            ring[next].copyFrom(fleet);
            next = (next + 1) % MOST_ACTS;
            size = Math.min(MOST_ACTS, size + 1);
        }

        boolean takeBack(Fleet fleet) {
            if (size == 0) {
                return false;
            }
            next = (next + MOST_ACTS - 1) % MOST_ACTS;
            size--;
            fleet.copyFrom(ring[next]);
            return true;
        }
    }

    /** All lines that cross, looked at together. */
    private static final class Tangle {
        private final int[] met = new int[MOST_KITES];

        /** For each kite those that it crosses, as bits. */
        private void look(Fleet fleet) {
            for (int a = 0; a < fleet.kites; a++) {
                met[a] = 0;
                for (int b = 0; b < fleet.kites; b++) {
                    if (a != b && fleet.meet(a, b)) {
                        met[a] |= 1 << b;
                    }
                }
            }
        }

        int pairs(Fleet fleet) {
            look(fleet);
            int ends = 0;
            for (int k = 0; k < fleet.kites; k++) {
                ends += Integer.bitCount(met[k]);
            }
            return ends / 2;
        }

        int fewest(Fleet fleet) {
            look(fleet);
            int all = (1 << fleet.kites) - 1;
            int best = all;
            for (int set = 0; set <= all; set++) {
                if (Integer.bitCount(set) < Integer.bitCount(best) && isLoose(all & ~set, fleet.kites)) {
                    best = set;
                }
            }
            return best;
        }

        private boolean isLoose(int left, int kites) {
            for (int k = 0; k < kites; k++) {
                if ((left >> k & 1) != 0 && (met[k] & left) != 0) {
                    return false;
                }
            }
            return true;
        }

        int nthAlong(Fleet fleet, int kite, int i) {
            look(fleet);
            for (int k = 0; k < fleet.kites; k++) {
                if ((met[kite] >> k & 1) != 0 && countAhead(fleet, kite, k) == i) {
                    return k;
                }
            }
            return NONE;
        }

        private int countAhead(Fleet fleet, int kite, int k) {
            int ahead = 0;
            for (int other = 0; other < fleet.kites; other++) {
                if ((met[kite] >> other & 1) != 0 && isAhead(fleet, kite, other, k)) {
                    ahead++;
                }
            }
            return ahead;
        }

        private static boolean isAhead(Fleet fleet, int kite, int a, int b) {
            int highA = fleet.meetingHeight(kite, a) * fleet.meetingBelow(kite, b);
            int highB = fleet.meetingHeight(kite, b) * fleet.meetingBelow(kite, a);
            return highA < highB || highA == highB && a < b;
        }
    }

    /**
     * Plans for the gust to come. A choice is a kite's number and its change (0 down, 1 stay, 2 up),
     * 3 * kite + change; a set of choices is an int's bits. Which choice cuts which is found once for
     * all plans, as there are up to 6561 pairs of plans but only 144 pairs of choices that can fight.
     */
    private static final class Plans {
        static final int MOST = 5;
        private static final int CHANGES = 3, STAY = 1, MOST_PLANS = 243;

        private final int[] heights = new int[MOST_KITES * CHANGES];
        private final int[] places = new int[MOST_KITES * CHANGES];
        private final int[] edges = new int[MOST_KITES * CHANGES];
        private final int[] cuts = new int[MOST_KITES * CHANGES];
        private final int[] changes = new int[MOST_KITES];
        private final int[] bestChanges = new int[MOST_KITES];
        private final int[] answers = new int[MOST_PLANS];
        private final int[] answerCuts = new int[MOST_PLANS];
        private int answerCount = 0;

        /** The most streets won less lost; its plan is kept for bestChange. */
        int best(Sky sky, int town, boolean otherMoves) {
            prepare(sky);
            prepareAnswers(sky.fleet, 1 - town, otherMoves);
            int kites = sky.fleet.ofTown(town);
            int plans = planCount(kites);
            int most = -BEYOND;
            for (int plan = 0; plan < plans; plan++) {
                takePlan(plan, kites);
                int lead = worstLead(sky.fleet, town);
                if (lead > most) {
                    most = lead;
                    System.arraycopy(changes, 0, bestChanges, 0, MOST_KITES);
                }
            }
            return most;
        }

        int bestChange(int i) {
            return i >= 0 && i < MOST_KITES ? bestChanges[i] : NONE;
        }

        private void prepare(Sky sky) {
            int kites = sky.fleet.kites;
            for (int choice = 0; choice < kites * CHANGES; choice++) {
                int kite = choice / CHANGES;
                int change = choice % CHANGES - STAY;
                int height = Math.max(1, Math.min(TOP, sky.fleet.height[kite] + change));
                heights[choice] = height;
                places[choice] = sky.blownX(sky.fleet.x[kite], height);
                edges[choice] = sky.edgeAt(sky.fleet.glass[kite], height);
                cuts[choice] = 0;
            }
            for (int a = 0; a < kites * CHANGES; a++) {
                for (int b = 0; b < kites * CHANGES; b++) {
                    if (edges[a] > edges[b] && mayFight(sky.fleet, a, b)) {
                        cuts[a] |= 1 << b;
                    }
                }
            }
        }

        private boolean mayFight(Fleet fleet, int a, int b) {
            int kite = a / CHANGES;
            int other = b / CHANGES;
            return fleet.town[kite] != fleet.town[other]
                    && Fleet.linesMeet(fleet.stake[kite], places[a], heights[a],
                            fleet.stake[other], places[b], heights[b]);
        }

        /** All that the other town may do, each a set of choices; it only stays if it does not move. */
        private void prepareAnswers(Fleet fleet, int town, boolean moves) {
            int kites = fleet.ofTown(town);
            answerCount = moves ? planCount(kites) : 1;
            for (int plan = 0; plan < answerCount; plan++) {
                if (moves) {
                    takePlan(plan, kites);
                } else {
                    takeStay();
                }
                answers[plan] = choices(fleet, town);
                answerCuts[plan] = cutBy(answers[plan]);
            }
        }

        private static int planCount(int kites) {
            int plans = 1;
            for (int k = 0; k < kites && k < MOST; k++) {
                plans *= CHANGES;
            }
            return plans;
        }

        private void takeStay() {
            for (int i = 0; i < MOST_KITES; i++) {
                changes[i] = STAY;
            }
        }

        /** Plans are numbered in their order: the first kite's change counts most. */
        private void takePlan(int plan, int kites) {
            int rest = plan;
            for (int i = Math.min(kites, MOST) - 1; i >= 0; i--) {
                changes[i] = rest % CHANGES;
                rest /= CHANGES;
            }
        }

        private int choices(Fleet fleet, int town) {
            int set = 0;
            int i = 0;
            for (int k = 0; k < fleet.kites; k++) {
                if (fleet.town[k] == town) {
                    set |= 1 << (CHANGES * k + changes[i]);
                    i++;
                }
            }
            return set;
        }

        private int worstLead(Fleet fleet, int town) {
            int own = choices(fleet, town);
            int ownCuts = cutBy(own);
            int worst = BEYOND;
            for (int answer = 0; answer < answerCount; answer++) {
                int wins = Integer.bitCount(answers[answer] & ownCuts);
                int losses = Integer.bitCount(own & answerCuts[answer]);
                worst = Math.min(worst, wins - losses);
            }
            return worst;
        }

        /** All choices that one of the set cuts. */
        private int cutBy(int set) {
            int cut = 0;
            for (int choice = 0; choice < MOST_KITES * CHANGES; choice++) {
                if ((set >> choice & 1) != 0) {
                    cut |= cuts[choice];
                }
            }
            return cut;
        }
    }

    /** Pairs that were seen to cross or not, and the rows of heights that fit them. */
    private static final class Seen {
        private final int[] kite = new int[MOST_SEEN];
        private final int[] other = new int[MOST_SEEN];
        private final boolean[] crossing = new boolean[MOST_SEEN];
        private final Fleet guess = new Fleet();
        final int[] least = new int[SEEN_KITES];
        final int[] greatest = new int[SEEN_KITES];
        int size = 0;

        boolean add(int a, int b, boolean crosses) {
            if (size >= MOST_SEEN) {
                return false;
            }
            kite[size] = Math.min(a, b);
            other[size] = Math.max(a, b);
            crossing[size] = crosses;
            size++;
            return true;
        }

        /** How many rows fit; least and greatest then hold their bounds, if there is a row. */
        int countRows(Fleet fleet) {
            guess.copyFrom(fleet);
            for (int k = 0; k < SEEN_KITES; k++) {
                least[k] = TOP;
                greatest[k] = 1;
            }
            return rowsFrom(this, 0, Math.min(SEEN_KITES, fleet.kites));
        }

        /** Rows for kite k and those behind it; each one before it has its height in the guess. */
        private static int rowsFrom(Seen seen, int k, int kites) {
            if (k >= kites || k >= SEEN_KITES) {
                return 1;
            }
            int rows = 0;
            for (int h = 1; h <= TOP; h++) {
                seen.guess.height[k] = h;
                int more = seen.agrees(k) ? rowsFrom(seen, k + 1, kites) : 0;
                if (more > 0) {
                    rows += more;
                    seen.least[k] = Math.min(seen.least[k], h);
                    seen.greatest[k] = Math.max(seen.greatest[k], h);
                }
            }
            return rows;
        }

        /** A pair is looked at when its greater kite has its height, so one that is away never is. */
        private boolean agrees(int k) {
            for (int s = 0; s < size; s++) {
                if (other[s] == k && guess.meet(kite[s], k) != crossing[s]) {
                    return false;
                }
            }
            return true;
        }
    }
}
