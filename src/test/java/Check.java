/** Counts and prints the answers that are not as due. */
final class Check {
    private int wrong = 0;
    private int asked = 0;

    void due(String call, long got, long want) {
        asked++;
        if (got != want) {
            wrong++;
            System.out.println(call + " answered " + got + ", due is " + want);
        }
    }

    void isTrue(String what, boolean holds) {
        due(what, holds ? 1 : 0, 1);
    }

    void end() {
        System.out.println(asked + " answers, " + wrong + " not as due");
        if (wrong != 0) {
            System.exit(1);
        }
    }

    /** Puts a text behind what stands there, as many bytes in one call as fit. */
    static int write(KitesWar war, String text) {
        int answer = 0;
        for (int at = 0; at < text.length(); at += 8) {
            int n = Math.min(8, text.length() - at);
            long v = 0;
            for (int i = 0; i < n; i++) {
                v = v << 8 | text.charAt(at + i);
            }
            answer = war.write(n, v);
        }
        return answer;
    }

    static int faultOf(String text) {
        KitesWar war = new KitesWar();
        write(war, text);
        return war.fault();
    }

    /** A new object whose war is the text. */
    static KitesWar warOf(String text) {
        KitesWar war = new KitesWar();
        write(war, text);
        war.war();
        return war;
    }
}
