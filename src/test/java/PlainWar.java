import java.util.ArrayList;
import java.util.List;

/**
 * The document once more, in its plainest form and without regard to room or time: each question is
 * answered by trying all there is. OracleTest holds the class against it.
 */
final class PlainWar {
    static final int UNKNOWN = -1, OUTSIDE = -2, STATE = -3, FULL = -4, NONE = -9;

    record Kite(int town, int stake, int x, int height, int glass) {
        Kite at(int newX, int newHeight) {
            return new Kite(town, stake, newX, newHeight, glass);
        }
    }

    record Seen(int kite, int other, boolean crosses) { }

    /** Kites, streets and wind; never changed, always made anew. */
    record Sky(List<Kite> kites, int won0, int won1, List<Integer> wind) {
        int lead(int town) {
            return town == 0 ? won0 - won1 : won1 - won0;
        }

        int won(int town) {
            return town == 0 ? won0 : won1;
        }

        int blowing(int height) {
            return wind.get(height - 1);
        }

        Sky with(List<Kite> others) {
            return new Sky(List.copyOf(others), won0, won1, wind);
        }

        Sky withWind(List<Integer> other) {
            return new Sky(kites, won0, won1, List.copyOf(other));
        }
    }

    private String text = "";
    private Sky now = new Sky(List.of(), 0, 0, List.of(0, 0, 0, 0, 0, 0, 0, 0, 0));
    private final List<Sky> acts = new ArrayList<>();
    private final Sky[] slots = new Sky[2];
    private final List<Seen> seen = new ArrayList<>();
    private long seed = 0;

    // ---- the war

    int write(int n, long v) {
        if (n < 1 || n > 8) {
            return OUTSIDE;
        }
        if (text.length() + n > 74) {
            return FULL;
        }
        for (int i = n - 1; i >= 0; i--) {
            text += (char) (v >> 8 * i & 0xff);
        }
        return text.length();
    }

    int wipe() {
        int was = text.length();
        text = "";
        return was;
    }

    /** The longest beginning that some war begins with; wars are found by a pattern and a look at stakes. */
    int fault() {
        for (int n = 1; n <= text.length(); n++) {
            if (!beginsAWar(text.substring(0, n))) {
                return n - 1;
            }
        }
        return isWar(text) ? NONE : text.length();
    }

    private static boolean isWar(String t) {
        String two = "([0-3][0-9]|40)";
        if (!t.matches("W[0-6]{9}(K[01]" + two + two + "[1-9][0-9]){0,8}")) {
            return false;
        }
        List<String> stakes = new ArrayList<>();
        for (int at = 10; at < t.length(); at += 8) {
            stakes.add(t.substring(at + 2, at + 4));
        }
        return stakes.stream().distinct().count() == stakes.size();
    }

    /** Some end makes it a war: the rest of its last part is tried with every stake. */
    private static boolean beginsAWar(String t) {
        String rest = "W333333333";
        if (t.length() < 10) {
            return isWar(t + rest.substring(t.length()));
        }
        int inPart = (t.length() - 10) % 8;
        if (inPart == 0) {
            return isWar(t);
        }
        for (int stake = 0; stake <= 40; stake++) {
            String part = String.format("K0%02d0011", stake);
            if (inPart == 5 && t.endsWith("4")) {
                part = String.format("K0%02d4011", stake);
            }
            if (isWar(t + part.substring(inPart))) {
                return true;
            }
        }
        return false;
    }

    int war() {
        if (fault() != NONE) {
            return STATE;
        }
        List<Integer> wind = new ArrayList<>();
        for (int h = 1; h <= 9; h++) {
            wind.add(Integer.parseInt(text.substring(h, h + 1)) - 3);
        }
        List<Kite> kites = new ArrayList<>();
        for (int at = 10; at < text.length(); at += 8) {
            kites.add(new Kite(number(at + 1, 1), number(at + 2, 2), number(at + 4, 2), number(at + 6, 1), number(at + 7, 1)));
        }
        now = new Sky(List.copyOf(kites), 0, 0, List.copyOf(wind));
        acts.clear();
        slots[0] = null;
        slots[1] = null;
        return kites.size();
    }

    private int number(int at, int figures) {
        return Integer.parseInt(text.substring(at, at + figures));
    }

    int kite(int kite, int what) {
        if (isNoKite(kite)) {
            return UNKNOWN;
        }
        Kite k = now.kites().get(kite);
        int[] all = {k.town(), k.stake(), k.x(), k.height(), k.glass(), edge(now, k)};
        return what < 0 || what > 5 ? OUTSIDE : all[what];
    }

    int wind(int height, int w) {
        if (height < 1 || height > 9 || w < -3 || w > 3) {
            return OUTSIDE;
        }
        int was = now.blowing(height);
        List<Integer> wind = new ArrayList<>(now.wind());
        wind.set(height - 1, w);
        now = now.withWind(wind);
        return was + 3;
    }

    // ---- acts

    private void act(Sky next) {
        acts.add(now);
        if (acts.size() > 16) {
            acts.remove(0);
        }
        now = next;
    }

    private Sky replaced(int kite, Kite by) {
        List<Kite> kites = new ArrayList<>(now.kites());
        kites.set(kite, by);
        return now.with(kites);
    }

    int rise(int kite, int n) {
        if (isNoKite(kite)) {
            return UNKNOWN;
        }
        Kite k = now.kites().get(kite);
        long high = (long) k.height() + n;
        if (n < -8 || n > 8 || high < 1 || high > 9) {
            return OUTSIDE;
        }
        act(replaced(kite, k.at(k.x(), (int) high)));
        return (int) high;
    }

    int run(int kite, int stake) {
        if (isNoKite(kite)) {
            return UNKNOWN;
        }
        if (stake < 0 || stake > 40) {
            return OUTSIDE;
        }
        if (isTaken(stake)) {
            return STATE;
        }
        Kite k = now.kites().get(kite);
        act(replaced(kite, new Kite(k.town(), stake, k.x(), k.height(), k.glass())));
        return Math.abs(k.stake() - stake);
    }

    int launch(int town, int stake, int height, int glass) {
        if (town < 0 || town > 1 || stake < 0 || stake > 40 || height < 1 || height > 9 || glass < 0 || glass > 9) {
            return OUTSIDE;
        }
        if (isTaken(stake)) {
            return STATE;
        }
        if (now.kites().size() == 8) {
            return FULL;
        }
        act(launched(now, new Kite(town, stake, stake, height, glass)));
        return now.kites().size() - 1;
    }

    private static Sky launched(Sky sky, Kite k) {
        List<Kite> kites = new ArrayList<>(sky.kites());
        kites.add(k);
        return sky.with(kites);
    }

    int takeIn(int kite) {
        if (isNoKite(kite)) {
            return UNKNOWN;
        }
        List<Kite> kites = new ArrayList<>(now.kites());
        kites.remove(kite);
        act(now.with(kites));
        return kites.size();
    }

    int gust() {
        int cut = cutIn(now);
        act(blown(now));
        return cut;
    }

    int undo() {
        if (acts.isEmpty()) {
            return STATE;
        }
        // Wind is put by no act, so it is not undone.
        now = acts.remove(acts.size() - 1).withWind(now.wind());
        return acts.size();
    }

    private static int edge(Sky sky, Kite k) {
        return k.glass() * (Math.abs(sky.blowing(k.height())) + 1);
    }

    private static List<Kite> drifted(Sky sky) {
        List<Kite> kites = new ArrayList<>();
        for (Kite k : sky.kites()) {
            int x = k.x() + sky.blowing(k.height());
            kites.add(k.at(x < 0 ? 0 : x > 40 ? 40 : x, k.height()));
        }
        return kites;
    }

    private static int cutIn(Sky sky) {
        List<Kite> kites = drifted(sky);
        int bits = 0;
        for (int i = 0; i < kites.size(); i++) {
            for (Kite other : kites) {
                Kite k = kites.get(i);
                if (other.town() != k.town() && edge(sky, other) > edge(sky, k) && crossing(k, other)) {
                    bits |= 1 << i;
                }
            }
        }
        return bits;
    }

    private static Sky blown(Sky sky) {
        int cut = cutIn(sky);
        List<Kite> all = drifted(sky);
        List<Kite> left = new ArrayList<>();
        int[] won = {sky.won0(), sky.won1()};
        for (int i = 0; i < all.size(); i++) {
            if ((cut & 1 << i) == 0) {
                left.add(all.get(i));
            } else {
                won[all.get(i).town() == 0 ? 1 : 0]++;
            }
        }
        return new Sky(List.copyOf(left), won[0], won[1], sky.wind());
    }

    private static Sky blown(Sky sky, int n) {
        return n == 0 ? sky : blown(blown(sky), n - 1);
    }

    // ---- lines

    /** Where p is to the line from a to b: left, on it, right. */
    private static int side(int ax, int ay, int bx, int by, int px, int py) {
        return Integer.signum((bx - ax) * (py - ay) - (by - ay) * (px - ax));
    }

    private static boolean isBetween(int ax, int ay, int bx, int by, int px, int py) {
        return side(ax, ay, bx, by, px, py) == 0 && Math.min(ax, bx) <= px && px <= Math.max(ax, bx)
                && Math.min(ay, by) <= py && py <= Math.max(ay, by);
    }

    /** Two lines from point to point, as for any such two. */
    private static boolean crossing(Kite a, Kite b) {
        int first = side(a.stake(), 0, a.x(), a.height(), b.stake(), 0);
        int second = side(a.stake(), 0, a.x(), a.height(), b.x(), b.height());
        int third = side(b.stake(), 0, b.x(), b.height(), a.stake(), 0);
        int fourth = side(b.stake(), 0, b.x(), b.height(), a.x(), a.height());
        if (first * second < 0 && third * fourth < 0) {
            return true;
        }
        return isBetween(a.stake(), 0, a.x(), a.height(), b.stake(), 0)
                || isBetween(a.stake(), 0, a.x(), a.height(), b.x(), b.height())
                || isBetween(b.stake(), 0, b.x(), b.height(), a.stake(), 0)
                || isBetween(b.stake(), 0, b.x(), b.height(), a.x(), a.height());
    }

    /** x above, below; height above, below, in least terms: how far along a the point is, by Cramer's rule. */
    private static long[] point(Kite a, Kite b) {
        long ax = a.x() - a.stake();
        long ay = a.height();
        long bx = b.x() - b.stake();
        long by = b.height();
        long under = ax * by - ay * bx;
        long along = (b.stake() - a.stake()) * by;
        long[] p = {a.stake() * under + ax * along, under, ay * along, under};
        for (int i = 0; i < 4; i += 2) {
            long g = gcd(Math.abs(p[i]), Math.abs(p[i + 1])) * (p[i + 1] < 0 ? -1 : 1);
            p[i] /= g;
            p[i + 1] /= g;
        }
        return p;
    }

    private static long gcd(long a, long b) {
        return b == 0 ? a : gcd(b, a % b);
    }

    int cross(int kite, int other) {
        if (isNoKite(kite) || isNoKite(other)) {
            return UNKNOWN;
        }
        return kite == other ? OUTSIDE : crossing(now.kites().get(kite), now.kites().get(other)) ? 1 : 0;
    }

    int where(int kite, int other, boolean high, boolean upper) {
        int crosses = cross(kite, other);
        if (crosses != 1) {
            return crosses == 0 ? STATE : crosses;
        }
        return (int) point(now.kites().get(kite), now.kites().get(other))[(high ? 2 : 0) + (upper ? 0 : 1)];
    }

    int along(int kite, int i) {
        if (isNoKite(kite)) {
            return UNKNOWN;
        }
        List<Integer> met = new ArrayList<>();
        for (int k = 0; k < now.kites().size(); k++) {
            if (cross(kite, k) == 1) {
                met.add(k);
            }
        }
        Kite line = now.kites().get(kite);
        met.sort((a, b) -> {
            long[] p = point(line, now.kites().get(a));
            long[] q = point(line, now.kites().get(b));
            int byHeight = Long.compare(p[2] * q[3], q[2] * p[3]);
            return byHeight != 0 ? byHeight : a - b;
        });
        return i >= 0 && i < met.size() ? met.get(i) : NONE;
    }

    private int tangleWithout(int set) {
        int pairs = 0;
        for (int a = 0; a < now.kites().size(); a++) {
            for (int b = 0; b < a; b++) {
                if ((set & (1 << a | 1 << b)) == 0) {
                    pairs += cross(a, b);
                }
            }
        }
        return pairs;
    }

    int tangle() {
        return tangleWithout(0);
    }

    int toTakeIn() {
        for (int many = 0; many <= 8; many++) {
            for (int set = 0; set < 256; set++) {
                if (Integer.bitCount(set) == many && tangleWithout(set) == 0) {
                    return set;
                }
            }
        }
        return 255;
    }

    // ---- plans

    int after(int town, int n) {
        if (town < 0 || town > 1 || n < 0 || n > 20) {
            return OUTSIDE;
        }
        return blown(now, n).won(town) - now.won(town);
    }

    /** All skies that a town can make of one, in the order of its plans. */
    private static List<Sky> planned(Sky sky, int town) {
        List<Sky> all = new ArrayList<>();
        all.add(sky);
        for (int k = 0; k < sky.kites().size(); k++) {
            Kite kite = sky.kites().get(k);
            if (kite.town() != town) {
                continue;
            }
            List<Sky> next = new ArrayList<>();
            for (Sky one : all) {
                for (int change = -1; change <= 1; change++) {
                    List<Kite> kites = new ArrayList<>(one.kites());
                    int high = kite.height() + change;
                    kites.set(k, kite.at(kite.x(), high == 0 ? 1 : high == 10 ? 9 : high));
                    next.add(one.with(kites));
                }
            }
            all = next;
        }
        return all;
    }

    private int ofTown(int town) {
        return (int) now.kites().stream().filter(k -> k.town() == town).count();
    }

    private int refusal(int town) {
        return town < 0 || town > 1 ? OUTSIDE : ofTown(town) > 5 ? STATE : 0;
    }

    private int bestPlan(int town) {
        List<Sky> all = planned(now, town);
        int best = 0;
        for (int p = 1; p < all.size(); p++) {
            if (blown(all.get(p)).lead(town) > blown(all.get(best)).lead(town)) {
                best = p;
            }
        }
        return best;
    }

    int tonight(int town) {
        if (refusal(town) != 0) {
            return refusal(town);
        }
        return blown(planned(now, town).get(bestPlan(town))).lead(town) - now.lead(town) + 100;
    }

    int tonightAt(int town, int i) {
        if (town < 0 || town > 1 || i < 0) {
            return OUTSIDE;
        }
        if (refusal(town) != 0) {
            return refusal(town);
        }
        if (i >= ofTown(town)) {
            return NONE;
        }
        String figures = "00000" + Integer.toString(bestPlan(town), 3);
        return figures.charAt(figures.length() - ofTown(town) + i) - '0';
    }

    int forSure(int town) {
        if (refusal(town) != 0) {
            return refusal(town);
        }
        if (ofTown(1 - town) > 5) {
            return STATE;
        }
        int best = -1000;
        for (Sky own : planned(now, town)) {
            int worst = 1000;
            for (Sky both : planned(own, 1 - town)) {
                worst = Math.min(worst, blown(both).lead(town) - now.lead(town));
            }
            best = Math.max(best, worst);
        }
        return best + 100;
    }

    int toLaunch(int town, int glass, int n) {
        if (town < 0 || town > 1 || glass < 0 || glass > 9 || n < 1 || n > 5) {
            return OUTSIDE;
        }
        if (now.kites().size() == 8) {
            return FULL;
        }
        int best = -1000;
        int answer = 0;
        for (int place = 1; place < 410; place++) {
            int stake = place / 10;
            if (place % 10 == 0 || isTaken(stake)) {
                continue;
            }
            int lead = blown(launched(now, new Kite(town, stake, stake, place % 10, glass)), n).lead(town);
            if (lead > best) {
                best = lead;
                answer = place;
            }
        }
        return answer;
    }

    // ---- seen, autumns

    int see(int kite, int other, boolean crosses) {
        if (isNoKite(kite) || isNoKite(other) || kite > 3 || other > 3) {
            return UNKNOWN;
        }
        if (kite == other) {
            return OUTSIDE;
        }
        if (seen.size() == 8) {
            return FULL;
        }
        seen.add(new Seen(kite, other, crosses));
        return seen.size();
    }

    int unsee() {
        int was = seen.size();
        seen.clear();
        return was;
    }

    /** Every row of heights is tried; a row is a number of figures 1 to 9. */
    private List<int[]> rows() {
        int kites = Math.min(4, now.kites().size());
        List<int[]> rows = new ArrayList<>();
        for (int number = 0; number < Math.pow(9, kites); number++) {
            int[] row = new int[kites];
            int rest = number;
            for (int k = 0; k < kites; k++) {
                row[k] = rest % 9 + 1;
                rest /= 9;
            }
            if (fitsAll(row)) {
                rows.add(row);
            }
        }
        return rows;
    }

    private boolean fitsAll(int[] row) {
        for (Seen s : seen) {
            if (s.kite() < row.length && s.other() < row.length) {
                Kite a = now.kites().get(s.kite());
                Kite b = now.kites().get(s.other());
                if (crossing(a.at(a.x(), row[s.kite()]), b.at(b.x(), row[s.other()])) != s.crosses()) {
                    return false;
                }
            }
        }
        return true;
    }

    int fits() {
        return rows().size();
    }

    int height(int kite, boolean most) {
        if (isNoKite(kite) || kite > 3) {
            return UNKNOWN;
        }
        int[] heights = rows().stream().mapToInt(row -> row[kite]).sorted().toArray();
        return heights.length == 0 ? NONE : most ? heights[heights.length - 1] : heights[0];
    }

    long seed(long v) {
        long was = seed;
        seed = v;
        return was;
    }

    int autumn(int town, int m) {
        if (town < 0 || town > 1 || m < 1 || m > 20) {
            return OUTSIDE;
        }
        Sky sky = now;
        for (int g = 0; g < m; g++) {
            List<Integer> wind = new ArrayList<>();
            for (int h = 1; h <= 9; h++) {
                seed = seed * 6364136223846793005L + 1442695040888963407L;
                wind.add((int) Long.remainderUnsigned(seed >>> 33, 7) - 3);
            }
            sky = blown(sky.withWind(wind));
        }
        return sky.won(town) - now.won(town);
    }

    // ---- slots

    int keep(int slot) {
        if (slot != 0 && slot != 1) {
            return UNKNOWN;
        }
        slots[slot] = now;
        return now.kites().size();
    }

    int again(int slot) {
        if (slot != 0 && slot != 1) {
            return UNKNOWN;
        }
        if (slots[slot] == null) {
            return STATE;
        }
        now = slots[slot];
        acts.clear();
        return now.kites().size();
    }

    int count(int what) {
        int[] all = {text.length(), now.kites().size(), ofTown(0), now.won0(), now.won1(), acts.size(), seen.size()};
        return what < 0 || what > 6 ? OUTSIDE : all[what];
    }

    private boolean isNoKite(int kite) {
        return kite < 0 || kite >= now.kites().size();
    }

    private boolean isTaken(int stake) {
        return now.kites().stream().anyMatch(k -> k.stake() == stake);
    }
}
