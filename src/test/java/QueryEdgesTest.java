/** The edges that the document names for queries and for what would be (promises 18 to 26), a part for each. */
public final class QueryEdgesTest extends Parts {
    public static void main(String[] args) {
        conkerFirstAndLast();
        conkerWhatLeastAndMost();
        conkerWithoutHeir();
        playerFirstAndLast();
        playerSendsNone();
        playerSendsOfSeveral();
        rankedFirstAndLast();
        rankedOfSeveral();
        rankedWithoutSmashed();
        rankedWithNoneLeft();
        lineOfNone();
        lineOfTwentySeven();
        lineOfFirstAndLast();
        lineHasNotItself();
        countWhatLeastAndMost();
        countOfBoasts();
        countOfThirty();
        ifStruckChangesNothing();
        leastSwingIsNine();
        leastSwingIsOne();
        leastSwingIsNone();
        leastSwingSparesStriker();
        leastSwingOfAllCracks();
        winnerLeastAndMostX();
        winnerStrikerBreaks();
        winnerFallsToo();
        winnerOfNone();
        winnerOfBothSmashed();
        winnerAsBout();
        shareOfNoVictories();
        shareOfNoPlayer();
        shareIsFloat();
        shareAfterLoss();
        CHECKS.close("QueryEdgesTest");
    }

    // ---- promise 18: conker

    private static void conkerFirstAndLast() {
        ConkerHeirs g = with(9, 8, 7);
        due("the first", 9, g.conker(0, 1));
        due("the last", 7, g.conker(2, 1));
        for (int no : new int[] {3, 4, 29, 30, 31, HIGHEST, -1, NONE, LOWEST}) {
            due("conker " + no, NO_SUCH, g.conker(no, 1));
            due("its line", NO_SUCH, g.line(no));
        }
    }

    private static void conkerWhatLeastAndMost() {
        ConkerHeirs g = with(9, 1);
        smash(g, 0, 1);
        due("least", 1, g.conker(1, 0));
        due("most", 1, g.conker(0, 8));
        for (int no : new int[] {-1, 9, 10, LOWEST, HIGHEST}) {
            due("what " + no, BAD_VALUE, g.conker(0, no));
            due("no conker, and what " + no, NO_SUCH, g.conker(2, no));
        }
    }

    private static void conkerWithoutHeir() {
        // smashed with another one, stamped on, fallen, and in play: nobody has them
        ConkerHeirs g = withFallen(1, 1);
        due("81", 0, g.strike(1, 2, 9));
        due("90", 0, g.strike(1, 3, 9));
        due("99", 0, g.strike(1, 2, 2) + g.strike(1, 3, 2));
        strikes(g, 2, 3, 2, 3);
        for (int conker = 0; conker < 4; conker++) {
            due("heir of " + conker, NONE, g.conker(conker, 7));
            due("those that it has", 0, g.conker(conker, 8));
        }
        due("stamp", 0, g.stamp(0));
        due("heir", NONE, g.conker(0, 7));
        due("none with an heir", 0, g.count(7));
    }

    // ---- promise 19: player

    private static void playerFirstAndLast() {
        ConkerHeirs g = with(9, 9, 9, 9, 9, 9);
        duePlayer(g, 0, 2, 0, 1, 0, 0, 0, 0);
        duePlayer(g, 5, 2, 0, 1, 0, 0, 0, 5);
        for (int no : new int[] {-1, 6, NONE, LOWEST, HIGHEST}) {
            due("player " + no, NO_SUCH, g.player(no, 0));
            due("no player, and no such what", NO_SUCH, g.player(no, 7));
        }
        for (int no : new int[] {-1, 7, 8, LOWEST, HIGHEST}) {
            due("what " + no, BAD_VALUE, g.player(5, no));
        }
    }

    private static void playerSendsNone() {
        ConkerHeirs g = withFallen(1);
        due("has only a fallen one", NONE, g.player(0, 6));
        duePlayer(g, 0, 2, 0, 0, 1, 0, 0, NONE);
        smash(g, 1, 2);
        duePlayer(g, 2, 2, 0, 0, 0, 1, 0, NONE);
        duePlayer(g, 3, 3, 0, 0, 0, 0, 0, NONE);
    }

    private static void playerSendsOfSeveral() {
        // player 0 has 0, 6 and 7: no victories, one, and one
        ConkerHeirs g = with(9, 1, 1, 1, 1, 9, 9);
        due("thread", 7, g.thread(0, 9));
        due("the lowest number", 0, g.player(0, 6));
        smash(g, 7, 1);
        due("the most victories", 7, g.player(0, 6));
        smash(g, 6, 2);
        due("the lower one of two", 6, g.player(0, 6));
        smash(g, 7, 3);
        due("the most victories", 7, g.player(0, 6));
        due("victories", 3, g.player(0, 5));
        // 7 has the wear 8; 12 more, and it falls with the most victories
        strikeTimes(g, 11, 7, 5, 1);
        strikes(g, 7, 5, 1, 4);
        due("the best in play", 6, g.player(0, 6));
        due("a fallen one's victories count", 3, g.player(0, 5));
        due("stamp", 2, g.stamp(7));
        due("a smashed one's do not", 1, g.player(0, 5));
    }

    // ---- promise 20: ranked

    private static void rankedFirstAndLast() {
        ConkerHeirs g = with(1, 2, 3);
        for (int rank = 0; rank < 3; rank++) {
            due("rank " + rank, rank, g.ranked(rank));
        }
        due("rank 3", NONE, g.ranked(3));
        due("rank 30", NONE, g.ranked(30));
        due("highest", NONE, g.ranked(HIGHEST));
        due("rank -1", BAD_VALUE, g.ranked(-1));
        due("lowest", BAD_VALUE, g.ranked(LOWEST));
        due("rank -1 of none", BAD_VALUE, new ConkerHeirs().ranked(-1));
    }

    private static void rankedOfSeveral() {
        ConkerHeirs g = with(9, 1, 9, 1, 9, 1, 9, 1);
        smash(g, 2, 1);
        smash(g, 2, 3);
        smash(g, 4, 5);
        smash(g, 6, 7);
        int[] order = {2, 4, 6, 0};
        for (int rank = 0; rank < 4; rank++) {
            due("rank " + rank, order[rank], g.ranked(rank));
        }
        due("no more", NONE, g.ranked(4));
    }

    private static void rankedWithoutSmashed() {
        ConkerHeirs g = with(1, 9, 9);
        smash(g, 1, 0);
        due("first", 1, g.ranked(0));
        due("last", 2, g.ranked(1));
        due("no more", NONE, g.ranked(2));
        ConkerHeirs h = withFallen();
        due("a fallen one is ranked", 0, h.ranked(0));
        due("stamp", 0, h.stamp(0));
        due("not any more", 1, h.ranked(0));
        due("no more", NONE, h.ranked(1));
    }

    private static void rankedWithNoneLeft() {
        ConkerHeirs g = with(9, 9);
        strikeTimes(g, 19, 0, 1, 1);
        strikes(g, 0, 1, 1, 12);
        due("stamp", 0, g.stamp(0));
        due("stamp", 0, g.stamp(1));
        due("none", NONE, g.ranked(0));
        dueCounts(g, 2, 0, 0, 2, 0, 0, 20, 0, 0, 0, 5, 0);
    }

    // ---- promise 21: line

    private static void lineOfNone() {
        ConkerHeirs g = with(9);
        due("nobody", 0, g.line(0));
        due("no conker 1", NO_SUCH, g.line(1));
        due("no conker -1", NO_SUCH, g.line(-1));
        due("no conker -5", NO_SUCH, g.line(NONE));
    }

    /** Conkers 2 to 29 are cracked to 99 by the hard ones 0 and 1; each smashes the one ahead of it then. */
    private static ConkerHeirs withLongLine() {
        ConkerHeirs g = new ConkerHeirs();
        for (int player = 2; player < 6; player++) {
            due("give", 7, g.give(player, 4));
        }
        due("hard", 0, g.thread(0, 9));
        due("hard", 1, g.thread(1, 9));
        for (int conker = 2; conker < 30; conker++) {
            due("soft", conker, g.thread(2 + conker % 4, 1));
        }
        for (int conker = 2; conker < 30; conker++) {
            crackTo99(g, conker % 2, conker);
        }
        for (int conker = 3; conker < 30; conker++) {
            due("smash", 2, g.strike(conker, conker - 1, 1));
        }
        return g;
    }

    private static void crackTo99(ConkerHeirs g, int hard, int soft) {
        for (int swing : new int[] {9, 2}) {
            if (g.strike(hard, soft, swing) == 4) {
                CHECKS.holds("mend", g.mend(hard) >= 0);
            }
        }
        due("crack", 99, g.conker(soft, 2));
    }

    private static void lineOfTwentySeven() {
        ConkerHeirs g = withLongLine();
        for (int conker = 2; conker < 30; conker++) {
            due("line of " + conker, conker - 2, g.line(conker));
        }
        due("victories", 27, g.conker(29, 4));
        due("it smashed one itself", 1, g.conker(29, 8));
        due("with an heir", 27, g.count(7));
        due("the first", 29, g.ranked(0));
        due("share", 1.0f, g.share(3));
        due("boast", NONE, g.boast(29, 27));
        due("not more than it has", 0, g.doubt(0, 29));
        due("boast", NONE, g.boast(29, 28));
        due("more than it has", 3, g.doubt(0, 29));
    }

    /** The conker 0 is in the line of the last one. */
    private static void lineOfFirstAndLast() {
        ConkerHeirs g = with(1, 5, 9);
        smash(g, 2, 0);
        due("line of the last one", 1, g.line(2));
        due("of the first one", 0, g.line(0));
        due("of the one between", 0, g.line(1));
    }

    private static void lineHasNotItself() {
        ConkerHeirs g = with(9, 1, 1);
        smash(g, 0, 1);
        due("one", 1, g.line(0));
        smash(g, 0, 2);
        due("two", 2, g.line(0));
        due("the smashed ones", 0, g.line(1) + g.line(2));
    }

    // ---- promise 22: count

    private static void countWhatLeastAndMost() {
        ConkerHeirs g = with(9, 9);
        write(g, "t");
        due("least", 2, g.count(0));
        due("most", 1, g.count(11));
        for (int no : new int[] {-1, 12, 13, NONE, LOWEST, HIGHEST}) {
            due("what " + no, BAD_VALUE, g.count(no));
        }
    }

    private static void countOfBoasts() {
        ConkerHeirs g = with(9, 1, 1);
        smash(g, 0, 1);
        due("boast", NONE, g.boast(0, 1));
        dueBoasts(g, 1, 0);
        due("boast", 1, g.boast(0, 2));
        dueBoasts(g, 1, 1);
        due("boast", NONE, g.boast(2, 1));
        dueBoasts(g, 2, 2);
        // a second victory makes the boast of 0 true, and the boast of 2 is gone
        smash(g, 0, 2);
        dueBoasts(g, 1, 0);
        due("doubt", 1, g.doubt(1, 0));
        dueBoasts(g, 0, 0);
    }

    private static void dueBoasts(ConkerHeirs g, int boasts, int tooHigh) {
        due("boasts", boasts, g.count(8));
        due("boasts that are too high", tooHigh, g.count(9));
    }

    private static void countOfThirty() {
        ConkerHeirs g = withLongLine();
        // 28 times two strikes and 27
        dueCounts(g, 30, 3, 0, 27, 27, 0, 83, 27, 0, 0, 5, 0);
        CHECKS.holds("a string", g.give(0, 1) >= 1);
        due("no room", TOO_MANY, g.thread(0, 1));
    }

    // ---- promises 23 and 24: ifStruck, leastSwing

    private static void ifStruckChangesNothing() {
        ConkerHeirs g = with(9, 1, 9);
        strikes(g, 0, 1, 9, 0);
        for (int i = 0; i < 3; i++) {
            due("smashed", 2, g.ifStruck(0, 1, 9));
            due("least swing", 3, g.leastSwing(0, 1));
            due("winner", 0, g.winner(1, 0, 0));
        }
        dueConker(g, 0, 0, 9, 0, 2, 0, NONE, 0, NONE, 0);
        dueConker(g, 1, 1, 1, 81, 1, 0, NONE, 0, NONE, 0);
        dueCounts(g, 3, 3, 0, 0, 0, 0, 1, 0, 0, 0, 4, 0);
        due("undo", 3, g.undo());
        due("the state of before", 0, g.conker(1, 2));
    }

    /** Conker 1 (hardness 9) has this crack, by gentle strikes of the conkers 2 to 5 of the hardness 9. */
    private static ConkerHeirs withHardCrack(int crack) {
        ConkerHeirs g = with(9, 9, 9, 9, 9, 9);
        int left = crack;
        int striker = 2;
        while (left > 0) {
            int swing = Math.min(left, 9);
            due("cracking", 0, g.strike(striker, 1, swing));
            left -= swing;
            striker = striker == 5 ? 2 : striker + 1;
        }
        due("crack", crack, g.conker(1, 2));
        return g;
    }

    private static void leastSwingIsNine() {
        due("91 and 9", 9, withHardCrack(91).leastSwing(0, 1));
    }

    private static void leastSwingIsOne() {
        due("99 and 1", 1, withHardCrack(99).leastSwing(0, 1));
    }

    private static void leastSwingIsNone() {
        due("90 and 9", NONE, withHardCrack(90).leastSwing(0, 1));
        due("a new one", NONE, withHardCrack(0).leastSwing(0, 1));
    }

    private static void leastSwingOfAllCracks() {
        for (int crack = 0; crack < 100; crack++) {
            ConkerHeirs g = withHardCrack(crack);
            due("crack " + crack, crack < 91 ? NONE : 100 - crack, g.leastSwing(0, 1));
        }
    }

    private static void leastSwingSparesStriker() {
        // cracks 99 and 99 of the hardness 1: a swing of 1 smashes the struck one, a swing of 2 both
        ConkerHeirs g = with(9, 1, 1);
        for (int conker = 1; conker < 3; conker++) {
            strikes(g, 0, conker, 9, 0);
            strikes(g, 0, conker, 2, 0);
        }
        due("1", 1, g.leastSwing(1, 2));
        due("both with 2", 3, g.ifStruck(1, 2, 2));
        // cracks 99 and 98: 1 does not smash the struck one, and 2 smashes both
        ConkerHeirs h = with(9, 1, 1, 1);
        for (int conker = 1; conker < 3; conker++) {
            strikes(h, 0, conker, 9, 0);
        }
        strikes(h, 0, 1, 2, 0);
        strikes(h, 0, 2, 1, 0);
        for (int i = 0; i < 8; i++) {
            strikes(h, 3, 2, 1, 0);
        }
        due("crack", 98, h.conker(2, 2));
        due("not with 1", 0, h.ifStruck(1, 2, 1));
        due("both with 2", 3, h.ifStruck(1, 2, 2));
        due("none", NONE, h.leastSwing(1, 2));
    }

    // ---- promise 25: winner

    private static void winnerLeastAndMostX() {
        ConkerHeirs g = with(9, 1);
        strikes(g, 0, 1, 9, 0);
        // 65535 gives a swing of 8 at once; 0 gives a swing of 2, a strike back, and so on
        due("x 65535", 0, g.winner(0, 1, 65535));
        due("x 65535, told the other way", 0, g.winner(1, 0, 65535));
        due("x 0", 0, g.winner(0, 1, 0));
        due("x -1", BAD_VALUE, g.winner(0, 1, -1));
        due("x 65536", BAD_VALUE, g.winner(0, 1, 65536));
    }

    /** The striker is smashed by its own strike: the other one wins. */
    private static void winnerStrikerBreaks() {
        ConkerHeirs g = with(1, 9);
        strikes(g, 0, 1, 9, 0);
        strikes(g, 0, 1, 9, 0);
        due("a swing of 8 is 36", 1, g.ifStruck(0, 1, 8));
        due("winner", 1, g.winner(0, 1, 65535));
        due("bout", 1, g.bout(0, 1, 65535));
        due("heir", 1, g.conker(0, 7));
    }

    /** It smashes the other one and falls with the same strike. */
    private static void winnerFallsToo() {
        ConkerHeirs g = with(9, 1, 9);
        strikes(g, 0, 1, 9, 0);
        strikeTimes(g, 16, 0, 2, 1);
        due("winner", 0, g.winner(0, 1, 65535));
        due("bout", 1, g.bout(0, 1, 65535));
        due("fallen", 1, g.conker(0, 6));
        due("heir", 0, g.conker(1, 7));
    }

    private static void winnerOfNone() {
        ConkerHeirs g = with(9, 9);
        strikeTimes(g, 19, 0, 1, 1);
        due("both fall", NONE, g.winner(0, 1, 65535));
        ConkerHeirs h = with(9, 9, 9);
        strikeTimes(h, 19, 0, 2, 1);
        due("one falls", NONE, h.winner(0, 1, 65535));
    }

    private static void winnerOfBothSmashed() {
        ConkerHeirs g = with(9, 1, 1);
        for (int conker = 1; conker < 3; conker++) {
            strikes(g, 0, conker, 9, 0);
            strikes(g, 0, conker, 2, 0);
        }
        due("a swing of 8 smashes both", 3, g.ifStruck(1, 2, 8));
        due("none wins", NONE, g.winner(1, 2, 65535));
        due("bout", 1, g.bout(1, 2, 65535));
        due("both", 2, g.count(3));
    }

    private static void winnerAsBout() {
        for (int x = 0; x < 65536; x += 61) {
            ConkerHeirs g = with(1 + x % 9, 1 + x / 9 % 9, 5);
            if (x % 2 == 0) {
                strikes(g, 2, x / 2 % 2, 9, 0);
            }
            int winner = g.winner(0, 1, x);
            due("the other way", winner, g.winner(1, 0, x));
            int strikes = g.bout(0, 1, x);
            CHECKS.holds("up to 20 strikes", strikes >= 1 && strikes <= 20);
            int heir = Math.max(g.conker(0, 7), g.conker(1, 7));
            due("winner of " + x, heir, winner);
        }
    }

    // ---- promise 26: share

    private static void shareOfNoVictories() {
        ConkerHeirs g = with(9, 9);
        for (int player = 0; player < 6; player++) {
            due("none", 0.0f, g.share(player));
        }
    }

    private static void shareOfNoPlayer() {
        ConkerHeirs g = with(9, 1);
        smash(g, 0, 1);
        due("all", 1.0f, g.share(0));
        for (int no : new int[] {-1, 6, NONE, LOWEST, HIGHEST}) {
            due("player " + no, 0.0f, g.share(no));
        }
        due("player 5", 0.0f, g.share(5));
    }

    private static void shareIsFloat() {
        ConkerHeirs g = with(9, 9, 1, 1, 1, 1, 1);
        smash(g, 0, 2);
        smash(g, 1, 3);
        smash(g, 1, 4);
        due("a third, no double", 1.0f / 3.0f, g.share(0));
        due("two thirds", 2.0f / 3.0f, g.share(1));
        CHECKS.holds("no quotient of whole numbers", g.share(0) > 0.33f && g.share(0) < 0.34f);
        smash(g, 0, 5);
        due("a half", 0.5f, g.share(0));
        due("a half", 0.5f, g.share(1));
    }

    private static void shareAfterLoss() {
        ConkerHeirs g = with(9, 1, 9, 1, 9);
        smash(g, 0, 1);
        smash(g, 2, 3);
        strikeTimes(g, 15, 0, 4, 1);
        due("fall", 4, g.strike(0, 4, 1));
        due("a fallen one's victories count", 0.5f, g.share(0));
        due("stamp", 1, g.stamp(0));
        due("they are lost", 0.0f, g.share(0));
        due("all that are left", 1.0f, g.share(2));
    }
}
