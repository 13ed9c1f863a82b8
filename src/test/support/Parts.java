/** What the tests that go part by part have in common: codes, games to begin with, rows of questions. */
public class Parts {
    static final int NO_SUCH = -1;
    static final int BAD_VALUE = -2;
    static final int TOO_MANY = -3;
    static final int NOT_POSSIBLE = -4;
    static final int NONE = -5;
    static final int LOWEST = Integer.MIN_VALUE;
    static final int HIGHEST = Integer.MAX_VALUE;

    static final Checks CHECKS = new Checks();

    static void due(String call, double want, double got) {
        CHECKS.due(call, want, got);
    }

    // ---- what the parts begin with

    /** Conker i belongs to player i modulo 6 and has the i-th hardness. */
    static ConkerHeirs with(int... hardness) {
        ConkerHeirs g = new ConkerHeirs();
        for (int i = 0; i < hardness.length; i++) {
            due("threading " + i, i, g.thread(i % 6, hardness[i]));
        }
        return g;
    }

    /** A conker with the hardness 9 smashes a fresh one with the hardness 1: 81 and 81 are above 100. */
    static void smash(ConkerHeirs g, int hard, int soft) {
        due("first strike", 0, g.strike(hard, soft, 9));
        due("second strike", 2, g.strike(hard, soft, 9));
    }

    /** Conker 0 (hardness 9) falls from strikes at conker 1 (9), whose wear is 10 then. */
    static ConkerHeirs withFallen(int... more) {
        ConkerHeirs g = with(9, 9);
        for (int i = 0; i < more.length; i++) {
            due("threading", 2 + i, g.thread(2 + i, more[i]));
        }
        for (int i = 0; i < 9; i++) {
            due("wearing", 0, g.strike(0, 1, 7));
        }
        due("falling", 4, g.strike(0, 1, 7));
        return g;
    }

    static void write(ConkerHeirs g, String text) {
        g.clearText();
        for (int i = 0; i < text.length(); i++) {
            due("append to " + text, i + 1, g.append(text.charAt(i)));
        }
    }

    // ---- rows of questions

    static void dueCounts(ConkerHeirs g, int... want) {
        for (int what = 0; what < want.length; what++) {
            due("count(" + what + ")", want[what], g.count(what));
        }
    }

    static void dueConker(ConkerHeirs g, int conker, int... want) {
        for (int what = 0; what < want.length; what++) {
            due("conker(" + conker + ", " + what + ")", want[what], g.conker(conker, what));
        }
    }

    static void duePlayer(ConkerHeirs g, int player, int... want) {
        for (int what = 0; what < want.length; what++) {
            due("player(" + player + ", " + what + ")", want[what], g.player(player, what));
        }
    }

    /** A strike that is told by ifStruck ahead of it, and does the same then. */
    static void strikes(ConkerHeirs g, int striker, int struck, int swing, int want) {
        String pair = "(" + striker + ", " + struck + ", " + swing + ")";
        due("ifStruck" + pair, want, g.ifStruck(striker, struck, swing));
        due("strike" + pair, want, g.strike(striker, struck, swing));
    }

    static void strikeTimes(ConkerHeirs g, int times, int striker, int struck, int swing) {
        for (int i = 0; i < times; i++) {
            due("strike " + i + " of " + striker + " at " + struck, 0, g.strike(striker, struck, swing));
        }
    }

    // ---- the numbers x

    static int next(int x) {
        return (int) ((25173L * x + 13849L) % 65536L);
    }

    /** The number x that becomes this one. */
    static int ahead(int wanted) {
        for (int x = 0; x < 65536; x++) {
            if (next(x) == wanted) {
                return x;
            }
        }
        return -1;
    }
}
