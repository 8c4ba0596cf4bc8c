import java.util.ArrayList;
import java.util.List;
import java.util.Random;

/** All promises: runs of calls by a fixed seed, answered by the class as by the plain model. */
public final class OracleTest {
    private static final int RUNS = 250, CALLS = 256;

    private final Random random;
    private final KitesWar war = new KitesWar();
    private final PlainWar plain = new PlainWar();
    private final List<String> row = new ArrayList<>();
    private boolean wrong = false;

    private OracleTest(long seed) {
        random = new Random(seed);
    }

    public static void main(String[] args) {
        int bad = 0;
        for (int r = 0; r < RUNS; r++) {
            OracleTest test = new OracleTest(r);
            test.play();
            bad += test.wrong ? 1 : 0;
        }
        System.out.println(RUNS + " runs, " + bad + " not as the plain model answers");
        if (bad != 0) {
            System.exit(1);
        }
    }

    private void play() {
        begin();
        for (int i = 0; i < CALLS && !wrong; i++) {
            int kind = random.nextInt(32);
            call(kind < 2 ? 40 + kind : kind);
            lookAround();
        }
        if (wrong) {
            int from = Math.max(0, row.size() - 40);
            row.subList(from, row.size()).forEach(System.out::println);
            System.out.println();
        }
    }

    private void same(String call, long got, long want) {
        row.add(call + " = " + got + (got == want ? "" : ", due is " + want));
        wrong = wrong || got != want;
    }

    /** Mostly in bounds, now and then just beyond them or far away. */
    private int number(int least, int greatest) {
        int choice = random.nextInt(24);
        if (choice == 0) {
            return least - 1;
        }
        if (choice == 1) {
            return greatest + 1;
        }
        if (choice == 2) {
            return random.nextInt();
        }
        return least + random.nextInt(greatest - least + 1);
    }

    private int someKite() {
        return number(0, Math.max(0, plain.count(1) - 1));
    }

    private String part() {
        int stake = random.nextInt(41);
        int x = Math.max(0, Math.min(40, stake + random.nextInt(25) - 12));
        return String.format("K%d%02d%02d%d%d", random.nextInt(2), stake, x, 1 + random.nextInt(9), random.nextInt(10));
    }

    private String someText() {
        StringBuilder text = new StringBuilder("W");
        for (int h = 0; h < 9; h++) {
            text.append(random.nextInt(7));
        }
        int kites = random.nextInt(9);
        for (int k = 0; k < kites; k++) {
            text.append(part());
        }
        if (random.nextInt(3) == 0) {
            text.setCharAt(random.nextInt(text.length()), (char) ('0' + random.nextInt(11)));
        }
        if (random.nextInt(6) == 0) {
            text.setLength(random.nextInt(text.length()));
        }
        return text.toString();
    }

    private void begin() {
        same("wipe()", war.wipe(), plain.wipe());
        String text = someText();
        for (int at = 0; at < text.length(); at += 8) {
            int n = Math.min(8, text.length() - at);
            long v = random.nextLong();
            for (int i = 0; i < n; i++) {
                v = v << 8 | text.charAt(at + i);
            }
            same("write(" + n + ", " + v + ")", war.write(n, v), plain.write(n, v));
        }
        same("fault()", war.fault(), plain.fault());
        same("war()", war.war(), plain.war());
    }

    /** All that can be told of the state, so that a wrong one is seen at the call that made it. */
    private void lookAround() {
        for (int what = 0; what <= 6; what++) {
            same("count(" + what + ")", war.count(what), plain.count(what));
        }
        for (int k = 0; k < plain.count(1); k++) {
            for (int what = 0; what <= 5; what++) {
                same("kite(" + k + ", " + what + ")", war.kite(k, what), plain.kite(k, what));
            }
        }
    }

    private void call(int kind) {
        if (kind <= 12) {
            act(kind);
        } else if (kind <= 18) {
            line(kind);
        } else if (kind <= 23) {
            plan(kind);
        } else if (kind <= 29) {
            seen(kind);
        } else {
            rest(kind);
        }
    }

    private void act(int kind) {
        int k = someKite();
        if (kind <= 4) {
            int town = number(0, 1);
            int stake = number(0, 40);
            int high = number(1, 9);
            int glass = number(0, 9);
            same("launch(" + town + ", " + stake + ", " + high + ", " + glass + ")",
                    war.launch(town, stake, high, glass), plain.launch(town, stake, high, glass));
        } else if (kind <= 6) {
            int n = number(-8, 8);
            same("rise(" + k + ", " + n + ")", war.rise(k, n), plain.rise(k, n));
        } else if (kind <= 8) {
            int stake = number(0, 40);
            same("run(" + k + ", " + stake + ")", war.run(k, stake), plain.run(k, stake));
        } else if (kind == 9 && random.nextInt(2) == 0) {
            same("takeIn(" + k + ")", war.takeIn(k), plain.takeIn(k));
        } else if (kind <= 10) {
            same("gust()", war.gust(), plain.gust());
        } else if (kind == 11) {
            same("undo()", war.undo(), plain.undo());
        } else {
            int h = number(1, 9);
            int w = number(-3, 3);
            same("wind(" + h + ", " + w + ")", war.wind(h, w), plain.wind(h, w));
        }
    }

    private void line(int kind) {
        int a = someKite();
        int b = someKite();
        if (kind == 13) {
            same("cross(" + a + ", " + b + ")", war.cross(a, b), plain.cross(a, b));
        } else if (kind <= 15) {
            for (int bits = 0; bits < 4; bits++) {
                boolean high = bits > 1;
                boolean upper = bits % 2 == 1;
                same("where(" + a + ", " + b + ", " + high + ", " + upper + ")",
                        war.where(a, b, high, upper), plain.where(a, b, high, upper));
            }
        } else if (kind == 16) {
            for (int i = -1; i < 8; i++) {
                same("along(" + a + ", " + i + ")", war.along(a, i), plain.along(a, i));
            }
        } else if (kind == 17) {
            same("tangle()", war.tangle(), plain.tangle());
        } else {
            same("toTakeIn()", war.toTakeIn(), plain.toTakeIn());
        }
    }

    private void plan(int kind) {
        int town = number(0, 1);
        if (kind == 19) {
            int n = number(0, 20);
            same("after(" + town + ", " + n + ")", war.after(town, n), plain.after(town, n));
        } else if (kind == 20) {
            same("tonight(" + town + ")", war.tonight(town), plain.tonight(town));
        } else if (kind == 21) {
            for (int i = -1; i <= 5; i++) {
                same("tonightAt(" + town + ", " + i + ")", war.tonightAt(town, i), plain.tonightAt(town, i));
            }
        } else if (kind == 22) {
            same("forSure(" + town + ")", war.forSure(town), plain.forSure(town));
        } else {
            int glass = number(0, 9);
            int n = number(1, 5);
            same("toLaunch(" + town + ", " + glass + ", " + n + ")",
                    war.toLaunch(town, glass, n), plain.toLaunch(town, glass, n));
        }
    }

    private void seen(int kind) {
        int a = number(0, 3);
        if (kind <= 25) {
            int b = number(0, 3);
            boolean crosses = plain.cross(a, b) == 1 ^ random.nextInt(5) == 0;
            same("see(" + a + ", " + b + ", " + crosses + ")", war.see(a, b, crosses), plain.see(a, b, crosses));
        } else if (kind == 26 && random.nextInt(3) == 0) {
            same("unsee()", war.unsee(), plain.unsee());
        } else if (kind <= 27) {
            same("fits()", war.fits(), plain.fits());
        } else if (kind == 28) {
            same("height(" + a + ", false)", war.height(a, false), plain.height(a, false));
            same("height(" + a + ", true)", war.height(a, true), plain.height(a, true));
        } else {
            int town = number(0, 1);
            int m = number(1, 20);
            same("autumn(" + town + ", " + m + ")", war.autumn(town, m), plain.autumn(town, m));
        }
    }

    private void rest(int kind) {
        int slot = number(0, 1);
        if (kind == 30) {
            same("keep(" + slot + ")", war.keep(slot), plain.keep(slot));
        } else if (kind == 31) {
            if (random.nextInt(3) == 0) {
                same("again(" + slot + ")", war.again(slot), plain.again(slot));
            }
        } else if (kind == 40) {
            long v = random.nextLong();
            same("seed(" + v + ")", war.seed(v), plain.seed(v));
            int n = number(1, 8);
            same("write(" + n + ", " + v + ")", war.write(n, v), plain.write(n, v));
            same("fault()", war.fault(), plain.fault());
        } else if (random.nextInt(4) == 0) {
            begin();
        }
    }
}
