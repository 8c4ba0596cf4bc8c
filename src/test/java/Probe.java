import java.util.function.Consumer;
import java.util.function.Supplier;

/**
 * All that can be asked of an object behind a call. Asking changes an object, and one is used for at
 * most 512 calls: so each part is asked of an object of its own, made and called alike.
 */
final class Probe {
    private final KitesWar war;
    private final StringBuilder told = new StringBuilder();

    private Probe(KitesWar war) {
        this.war = war;
    }

    static String behind(Supplier<KitesWar> maker, Consumer<KitesWar> call) {
        StringBuilder all = new StringBuilder();
        for (int part = 0; part < 7; part++) {
            KitesWar war = maker.get();
            call.accept(war);
            all.append(new Probe(war).part(part)).append('\n');
        }
        return all.toString();
    }

    private String part(int part) {
        switch (part) {
            case 0:
                tell("fault", war.fault());
                now();
                seen();
                tell("seed", war.seed(0));
                break;
            case 1:
            case 2:
            case 3:
                row(2 * part - 2, 2 * part - 1);
                break;
            case 4:
            case 5:
                tell("again " + (part - 4), war.again(part - 4));
                now();
                break;
            default:
                tell("war", war.war());
                now();
        }
        return told.toString();
    }

    private void tell(String what, long answer) {
        told.append(what).append(' ').append(answer).append("; ");
    }

    private void now() {
        for (int what = 0; what <= 6; what++) {
            tell("count " + what, war.count(what));
        }
        for (int what = 0; what <= 5; what++) {
            kites(what);
        }
        for (int h = 1; h <= 9; h++) {
            tell("wind " + h, war.wind(h, 0));
        }
    }

    private void kites(int what) {
        int kites = war.count(1);
        for (int k = 0; k < kites; k++) {
            tell("kite " + k + " " + what, war.kite(k, what));
        }
    }

    private void seen() {
        tell("fits", war.fits());
        for (int k = 0; k < 4; k++) {
            tell("least " + k, war.height(k, false));
            tell("greatest " + k, war.height(k, true));
        }
    }

    /** The whole row of acts, undone from its end. */
    private void row(int what, int other) {
        for (int left = war.count(5); left > 0; left--) {
            tell("undo", war.undo());
            tell("count 3", war.count(3));
            tell("count 4", war.count(4));
            tell("count 1", war.count(1));
            kites(what);
            kites(other);
        }
    }
}
