/** The edges that the document names for boasts, bouts and rounds (promises 7 to 10), a part for each. */
public final class BoutEdgesTest extends Parts {
    public static void main(String[] args) {
        boastLeastAndMost();
        boastOfNoneIsRecorded();
        sameBoastIsRecorded();
        boastOfFallen();
        boastEndsWithTheConker();
        doubtOfJustAsMany();
        doubtOfOneMore();
        doubtOfNothing();
        doubtOfMost();
        doubtOfFallen();
        doubtByPlayerWithoutConkers();
        doubtTwice();
        shameAddsUp();
        boutLeastAndMostX();
        boutSwings();
        boutBeginsWithTheLowerNumber();
        boutOfOneStrike();
        boutOfTwentyStrikes();
        boutEndsWithASmash();
        roundOfNobody();
        roundOfOne();
        roundOfTwo();
        roundLeavesOut();
        roundSendsTheBest();
        roundsOfAll();
        roundAfterOneThatRests();
        CHECKS.close("BoutEdgesTest");
    }

    // ---- promise 7: boast

    private static void boastLeastAndMost() {
        ConkerHeirs g = with(5);
        due("99", NONE, g.boast(0, 99));
        due("99 is told", 99, g.conker(0, 5));
        due("0", 99, g.boast(0, 0));
        due("0 is told, not NONE", 0, g.conker(0, 5));
        due("a boast of 0 is one", 1, g.count(8));
        due("but not more than there are", 0, g.count(9));
        due("0 was told", 0, g.boast(0, 1));
        due("1 is more", 1, g.count(9));
    }

    private static void boastOfNoneIsRecorded() {
        ConkerHeirs g = with(5);
        due("NONE is no error code", NONE, g.boast(0, 1));
        due("recorded", 2, g.count(10));
        due("undone", 1, g.undo());
        due("none again", NONE, g.conker(0, 5));
    }

    private static void sameBoastIsRecorded() {
        ConkerHeirs g = with(5);
        due("first", NONE, g.boast(0, 7));
        due("the same again", 7, g.boast(0, 7));
        due("recorded", 3, g.count(10));
        due("undone", 2, g.undo());
        due("the same", 7, g.conker(0, 5));
    }

    private static void boastOfFallen() {
        ConkerHeirs g = withFallen();
        due("of a fallen one", NONE, g.boast(0, 0));
        due("told", 0, g.conker(0, 5));
        due("stamp", 0, g.stamp(0));
        due("of a smashed one", NOT_POSSIBLE, g.boast(0, 0));
    }

    private static void boastEndsWithTheConker() {
        ConkerHeirs g = with(9, 1);
        due("of the striker", NONE, g.boast(0, 3));
        due("of the struck one", NONE, g.boast(1, 4));
        due("two", 2, g.count(8));
        smash(g, 0, 1);
        due("it stays", 3, g.conker(0, 5));
        due("it is gone", NONE, g.conker(1, 5));
        due("one", 1, g.count(8));
    }

    // ---- promise 8: doubt

    private static void doubtOfJustAsMany() {
        ConkerHeirs g = with(9, 1, 5);
        smash(g, 0, 1);
        due("boast", NONE, g.boast(0, 1));
        due("1 is not more than 1", 2, g.doubt(2, 0));
        duePlayer(g, 0, 2, 0);
        duePlayer(g, 2, 2, 1);
    }

    private static void doubtOfOneMore() {
        ConkerHeirs g = with(9, 1, 5);
        smash(g, 0, 1);
        due("boast", NONE, g.boast(0, 2));
        due("2 is more than 1", 0, g.doubt(2, 0));
        duePlayer(g, 0, 2, 1);
        duePlayer(g, 2, 2, 0);
    }

    private static void doubtOfNothing() {
        ConkerHeirs g = with(5);
        due("boast of 0", NONE, g.boast(0, 0));
        due("0 is not more than 0", 5, g.doubt(5, 0));
        due("boast of 1", NONE, g.boast(0, 1));
        due("1 is more than 0", 0, g.doubt(5, 0));
        due("the boast is gone", NONE, g.conker(0, 5));
    }

    private static void doubtOfMost() {
        ConkerHeirs g = with(5, 5, 5, 5, 5, 5);
        due("boast", NONE, g.boast(5, 99));
        due("doubt by player 0", 5, g.doubt(0, 5));
        due("boast", NONE, g.boast(0, 99));
        due("doubt by player 5", 0, g.doubt(5, 0));
    }

    private static void doubtOfFallen() {
        ConkerHeirs g = withFallen();
        due("boast", NONE, g.boast(0, 1));
        due("doubt", 0, g.doubt(1, 0));
        due("still fallen", 1, g.conker(0, 6));
    }

    private static void doubtByPlayerWithoutConkers() {
        ConkerHeirs g = with(5);
        due("boast", NONE, g.boast(0, 0));
        due("doubt", 4, g.doubt(4, 0));
        duePlayer(g, 4, 3, 1, 0, 0, 0, 0, NONE);
    }

    private static void doubtTwice() {
        ConkerHeirs g = with(5);
        due("boast", NONE, g.boast(0, 3));
        due("first", 0, g.doubt(1, 0));
        due("no boast any more", NOT_POSSIBLE, g.doubt(2, 0));
        due("boast again", NONE, g.boast(0, 3));
        due("second", 0, g.doubt(2, 0));
        due("shame", 2, g.player(0, 1));
    }

    private static void shameAddsUp() {
        ConkerHeirs g = with(5);
        for (int i = 1; i <= 60; i++) {
            due("boast", NONE, g.boast(0, 1));
            due("doubt", 0, g.doubt(1, 0));
            due("shame", i, g.player(0, 1));
        }
    }

    // ---- promise 9: bout

    /** Conkers 0 and 1 of the hardness 9 fall with the next strike; conker 1 has the crack 19. */
    private static ConkerHeirs withWorn() {
        ConkerHeirs g = with(9, 9);
        strikeTimes(g, 19, 0, 1, 1);
        return g;
    }

    private static void boutLeastAndMostX() {
        // 0 becomes 13849, a swing of 2; 65535 becomes 54212 (13849 - 25173 + 65536), a swing of 8
        ConkerHeirs g = withWorn();
        due("x 0", 1, g.bout(0, 1, 0));
        due("swing 2", 21, g.conker(1, 2));
        ConkerHeirs h = withWorn();
        due("x 65535", 1, h.bout(0, 1, 65535));
        due("swing 8", 27, h.conker(1, 2));
        due("striker 8 / 2", 4, h.conker(0, 2));
    }

    /** The swings change at multiples of 7282; the last number, 65535, is below the ninth multiple. */
    private static void boutSwings() {
        for (int swing = 1; swing <= 9; swing++) {
            int[] numbers = {(swing - 1) * 7282, Math.min(swing * 7282 - 1, 65535)};
            for (int number : numbers) {
                ConkerHeirs g = withWorn();
                due("winner", NONE, g.winner(0, 1, ahead(number)));
                due("one strike", 1, g.bout(1, 0, ahead(number)));
                due("swing of " + number, 19 + swing, g.conker(1, 2));
            }
        }
    }

    private static void boutBeginsWithTheLowerNumber() {
        for (int turn = 0; turn < 2; turn++) {
            ConkerHeirs g = withWorn();
            due("one strike", 1, g.bout(turn, 1 - turn, 0));
            due("0 strikes", 1, g.conker(0, 2));
            due("1 is struck", 19 + 2, g.conker(1, 2));
        }
        // one that was threaded by another player in between does not matter
        ConkerHeirs h = with(9, 1, 9);
        strikeTimes(h, 19, 0, 2, 1);
        due("one strike", 1, h.bout(2, 0, 0));
        due("2 is struck", 21, h.conker(2, 2));
    }

    private static void boutOfOneStrike() {
        ConkerHeirs g = with(9, 1);
        strikes(g, 0, 1, 9, 0);
        due("a swing of 8 smashes", 1, g.bout(0, 1, 65535));
        due("heir", 0, g.conker(1, 7));
        due("one action", 4, g.count(10));
        due("undone at once", 3, g.undo());
        due("crack", 81, g.conker(1, 2));
    }

    private static void boutOfTwentyStrikes() {
        int x = 0;
        while (!isGentle(x)) {
            x++;
        }
        ConkerHeirs g = with(9, 9);
        due("each wears by 1", 20, g.bout(0, 1, x));
        due("both fall with the last strike", 2, g.count(2));
        due("strikes", 20, g.count(6));
        due("wear", 20, g.conker(0, 3));
        due("one action", 3, g.count(10));
    }

    private static boolean isGentle(int start) {
        int x = start;
        for (int i = 0; i < 20; i++) {
            x = next(x);
            if (x >= 6 * 7282) {
                return false;
            }
        }
        return true;
    }

    /** Each swing and each turn by hand, until one is smashed: x = 0 gives the swings 2, 7, 5, 3, 2, 9, 8. */
    private static void boutEndsWithASmash() {
        ConkerHeirs g = with(9, 2);
        due("winner", 0, g.winner(0, 1, 0));
        due("seven strikes", 7, g.bout(0, 1, 0));
        ConkerHeirs h = with(9, 2);
        int[] swings = {2, 7, 5, 3, 2, 9, 8};
        for (int i = 0; i < 7; i++) {
            strikes(h, i % 2, 1 - i % 2, swings[i], i < 6 ? 0 : 2);
        }
        dueAlike(2, h, g);
    }

    // ---- promise 10: round

    private static void dueAlike(int conkers, ConkerHeirs want, ConkerHeirs got) {
        for (int conker = 0; conker < conkers; conker++) {
            for (int what = 0; what < 9; what++) {
                due("conker(" + conker + ", " + what + ")", want.conker(conker, what), got.conker(conker, what));
            }
        }
        for (int what = 0; what < 10; what++) {
            due("count(" + what + ")", want.count(what), got.count(what));
        }
    }

    private static void roundOfNobody() {
        ConkerHeirs g = new ConkerHeirs();
        due("x 0", 0, g.round(0));
        due("x 65535", 0, g.round(65535));
        due("recorded, though nothing changes", 2, g.count(10));
        due("undo", 1, g.undo());
        dueCounts(g, 0, 0, 0, 0, 0, 0, 0, 0, 0, 0, 1, 0);
    }

    private static void roundOfOne() {
        ConkerHeirs g = with(5);
        due("he rests", 0, g.round(9));
        dueConker(g, 0, 0, 5, 0, 0, 0, NONE, 0, NONE, 0);
        due("recorded", 2, g.count(10));
    }

    /** The draw among one takes a number x all the same: 0 becomes 13849, and the first swing comes from 48742. */
    private static void roundOfTwo() {
        ConkerHeirs g = withWorn();
        due("a bout", 1, g.round(0));
        due("a swing of 7", 19 + 7, g.conker(1, 2));
        ConkerHeirs h = withWorn();
        due("a bout", 1, h.round(65535));
        ConkerHeirs k = withWorn();
        due("a strike", 1, k.bout(0, 1, next(65535)));
        dueAlike(2, k, h);
    }

    /** Fallen and smashed conkers are not sent, and who has no others sends none. */
    private static void roundLeavesOut() {
        ConkerHeirs g = withFallen(9, 1);
        smash(g, 2, 3);
        due("1 and 2 are left", 1, g.round(65535));
        due("the fallen one", 1, g.conker(0, 6));
        due("its wear", 20, g.conker(0, 3));
        due("the smashed one", 2, g.conker(3, 3));
        ConkerHeirs h = withFallen();
        due("one is left", 0, h.round(1));
        due("no strike", 10, h.count(6));
    }

    private static void roundSendsTheBest() {
        ConkerHeirs g = with(9, 1, 1, 1, 1, 1, 9);
        smash(g, 6, 1);
        due("sent", 6, g.player(0, 6));
        due("with one victory", 2, g.round(5));
        due("0 is not sent", 0, g.conker(0, 3));
        // of several with the most victories the one with the lowest number
        ConkerHeirs h = with(9, 1, 1, 1, 1, 1, 9);
        smash(h, 6, 1);
        smash(h, 0, 2);
        due("sent", 0, h.player(0, 6));
        int wear = h.conker(6, 3);
        due("three others", 2, h.round(5));
        due("6 is not sent", wear, h.conker(6, 3));
    }

    /** Rounds of 2 to 6 players with all orders of shame, told by bouts one by one. */
    private static void roundsOfAll() {
        for (int x = 0; x < 65536; x += 127) {
            roundToldByBouts(2 + x % 5, x / 7, x);
        }
        for (int players = 2; players <= 6; players++) {
            roundToldByBouts(players, 0, 0);
            roundToldByBouts(players, 1, 65535);
        }
    }

    private static ConkerHeirs ashamed(int players, int shames) {
        ConkerHeirs g = new ConkerHeirs();
        for (int player = 0; player < players; player++) {
            due("thread", player, g.thread(player, 1 + (player * 5 + shames) % 9));
            for (int i = 0; i < shameOf(player, shames); i++) {
                due("boast", NONE, g.boast(player, 1));
                due("doubt", player, g.doubt((player + 1) % 6, player));
            }
        }
        return g;
    }

    /** 0 to 2, so that several have the same. */
    private static int shameOf(int player, int shames) {
        int digits = shames;
        for (int i = 0; i < player; i++) {
            digits /= 3;
        }
        return digits % 3;
    }

    private static void roundToldByBouts(int players, int shames, int start) {
        ConkerHeirs g = ashamed(players, shames);
        ConkerHeirs h = ashamed(players, shames);
        int[] row = new int[players];
        int length = 0;
        for (int shame = 0; shame < 3; shame++) {
            for (int player = 0; player < players; player++) {
                if (shameOf(player, shames) == shame) {
                    row[length++] = player;
                }
            }
        }
        int x = start;
        int bouts = 0;
        while (length >= 2) {
            x = next(x);
            int index = 1 + x % (length - 1);
            int strikes = h.bout(row[0], row[index], x);
            for (int i = 0; i < strikes; i++) {
                x = next(x);
            }
            int kept = 0;
            for (int i = 1; i < length; i++) {
                if (i != index) {
                    row[kept++] = row[i];
                }
            }
            length = kept;
            bouts++;
        }
        due("bouts of " + players, bouts, g.round(start));
        due("bouts of " + players, players / 2, bouts);
        dueAlike(players, h, g);
    }

    /** Who rested in a round, of three, stands in the next row as the others do. */
    private static void roundAfterOneThatRests() {
        ConkerHeirs g = with(9, 9, 9);
        ConkerHeirs h = with(9, 9, 9);
        due("one bout", 1, g.round(2));
        int x = next(2);
        due("strikes", g.count(6), h.bout(0, 1 + x % 2, x));
        int left = g.count(1);
        due("left", left, h.count(1));
        int bouts = left / 2;
        due("the next round", bouts, g.round(3));
        if (bouts == 1) {
            int first = h.player(0, 6) == 0 ? 0 : 1;
            int second = h.player(1, 6) == 1 && first == 0 ? 1 : 2;
            due("strikes", g.count(6) - h.count(6), h.bout(first, second, next(3)));
        }
        dueAlike(3, h, g);
        CHECKS.holds("a second bout is looked at", bouts == 1);
    }
}
