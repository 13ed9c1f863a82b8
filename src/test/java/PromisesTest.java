/** A part for each promise of the document: ordinary inputs, the edges that it names, and wrong inputs. */
public final class PromisesTest extends Parts {
    public static void main(String[] args) {
        newObject();
        thread();
        threadUpTo30();
        give();
        strike();
        strikeErrors();
        strikeSmashes();
        strikeSmashesBoth();
        strikeWearsAndFalls();
        mend();
        stamp();
        boast();
        doubt();
        bout();
        round();
        roundByShame();
        append();
        clearText();
        fault();
        run();
        runStops();
        undo();
        undoOfEachAction();
        save();
        restore();
        conker();
        player();
        ranked();
        line();
        count();
        ifStruck();
        leastSwing();
        winner();
        share();
        CHECKS.close("PromisesTest");
    }

    // ---- the promises

    private static void newObject() {
        ConkerHeirs g = new ConkerHeirs();
        for (int player = 0; player < 6; player++) {
            duePlayer(g, player, 3, 0, 0, 0, 0, 0, NONE);
        }
        dueCounts(g, 0, 0, 0, 0, 0, 0, 0, 0, 0, 0, 0, 0);
        due("no history", NONE, g.undo());
        due("no snapshot", NOT_POSSIBLE, g.restore());
        due("no text", 0, g.clearText());
        due("NO_SUCH", NO_SUCH, ConkerHeirs.NO_SUCH);
        due("BAD_VALUE", BAD_VALUE, ConkerHeirs.BAD_VALUE);
        due("TOO_MANY", TOO_MANY, ConkerHeirs.TOO_MANY);
        due("NOT_POSSIBLE", NOT_POSSIBLE, ConkerHeirs.NOT_POSSIBLE);
        due("NONE", NONE, ConkerHeirs.NONE);
    }

    private static void thread() {
        ConkerHeirs g = new ConkerHeirs();
        due("first", 0, g.thread(5, 1));
        due("second", 1, g.thread(0, 9));
        dueConker(g, 0, 5, 1, 0, 0, 0, NONE, 0, NONE, 0);
        dueConker(g, 1, 0, 9, 0, 0, 0, NONE, 0, NONE, 0);
        due("a string is used", 2, g.player(5, 0));
        due("player -1", NO_SUCH, g.thread(-1, 5));
        due("player 6, ahead of hardness", NO_SUCH, g.thread(6, 0));
        due("player lowest", NO_SUCH, g.thread(LOWEST, 5));
        due("player highest", NO_SUCH, g.thread(HIGHEST, 5));
        due("hardness 0", BAD_VALUE, g.thread(0, 0));
        due("hardness 10", BAD_VALUE, g.thread(0, 10));
        due("hardness lowest", BAD_VALUE, g.thread(0, LOWEST));
        due("third of 5", 2, g.thread(5, 2));
        due("last string of 5", 3, g.thread(5, 2));
        due("no string", NOT_POSSIBLE, g.thread(5, 2));
        due("hardness ahead of strings", BAD_VALUE, g.thread(5, 10));
        due("conkers", 4, g.count(0));
        due("errors are not recorded", 4, g.count(10));
    }

    private static void threadUpTo30() {
        ConkerHeirs g = new ConkerHeirs();
        due("give", 12, g.give(0, 9));
        for (int i = 0; i < 30; i++) {
            int player = i < 12 ? 0 : 1 + (i - 12) % 5;
            if (g.player(player, 0) == 0) {
                due("give one", 1, g.give(player, 1));
            }
            due("thread", i, g.thread(player, 1 + i % 9));
        }
        due("conkers", 30, g.count(0));
        due("no string ahead of no room", NOT_POSSIBLE, g.thread(0, 1));
        due("give", 1, g.give(0, 1));
        due("no room", TOO_MANY, g.thread(0, 1));
        due("the last conker", 0, g.conker(29, 6));
        due("no conker 30", NO_SUCH, g.conker(30, 6));
        g.undo();
        due("undone", 4, g.count(10));
        g.undo();
        due("thread again", 29, g.count(0));
    }

    private static void give() {
        ConkerHeirs g = new ConkerHeirs();
        due("one", 4, g.give(2, 1));
        due("nine", 13, g.give(2, 9));
        due("above 20", TOO_MANY, g.give(2, 8));
        due("just 20", 20, g.give(2, 7));
        due("20 and one", TOO_MANY, g.give(2, 1));
        due("strings", 20, g.player(2, 0));
        due("the others'", 3, g.player(1, 0));
        due("player -1", NO_SUCH, g.give(-1, 0));
        due("player 6", NO_SUCH, g.give(6, 1));
        due("strings 0", BAD_VALUE, g.give(2, 0));
        due("strings 10, ahead of too many", BAD_VALUE, g.give(2, 10));
        due("strings lowest", BAD_VALUE, g.give(2, LOWEST));
        due("strings highest", BAD_VALUE, g.give(2, HIGHEST));
        due("history", 3, g.count(10));
    }

    private static void strike() {
        ConkerHeirs g = with(5, 3);
        due("a strike", 0, g.strike(0, 1, 7));
        // 7 * 5 / 3 is 11 and 7 * 3 / 10 is 2; the wear is 2 for a swing above 6
        dueConker(g, 0, 0, 5, 2, 2, 0, NONE, 0, NONE, 0);
        dueConker(g, 1, 1, 3, 11, 1, 0, NONE, 0, NONE, 0);
        due("a strike back", 0, g.strike(1, 0, 6));
        // 6 * 3 / 5 is 3 and 6 * 5 / 6 is 5; the wear is 1 for a swing of 6
        dueConker(g, 0, 0, 5, 5, 3, 0, NONE, 0, NONE, 0);
        dueConker(g, 1, 1, 3, 16, 2, 0, NONE, 0, NONE, 0);
        due("strikes", 2, g.count(6));
        due("history", 4, g.count(10));
        // a soft one at a hard one: 9 * 1 / 9 is 1 and 9 * 9 / 2 is 40
        ConkerHeirs h = with(1, 9);
        due("a soft striker", 0, h.strike(0, 1, 9));
        due("its crack", 40, h.conker(0, 2));
        due("the other's crack", 1, h.conker(1, 2));
        due("a gentle strike", 0, h.strike(0, 1, 1));
        due("its crack", 44, h.conker(0, 2));
        due("rounded down", 1, h.conker(1, 2));
    }

    private static void strikeErrors() {
        ConkerHeirs g = with(9, 1, 5, 5, 5, 5, 4);
        due("no striker", NO_SUCH, g.strike(7, 0, 1));
        due("no struck one", NO_SUCH, g.strike(0, 7, 1));
        due("striker -1", NO_SUCH, g.strike(-1, 0, 0));
        due("struck one -1", NO_SUCH, g.strike(0, -1, 10));
        due("lowest", NO_SUCH, g.strike(LOWEST, HIGHEST, 1));
        due("swing 0", BAD_VALUE, g.strike(0, 1, 0));
        due("swing 10, ahead of the same player", BAD_VALUE, g.strike(0, 6, 10));
        due("swing highest", BAD_VALUE, g.strike(0, 1, HIGHEST));
        due("the same player", NOT_POSSIBLE, g.strike(0, 6, 1));
        due("itself", NOT_POSSIBLE, g.strike(0, 0, 1));
        smash(g, 0, 1);
        due("at a smashed one", NOT_POSSIBLE, g.strike(0, 1, 1));
        due("by a smashed one", NOT_POSSIBLE, g.strike(1, 0, 1));
        due("strikes", 2, g.count(6));
        ConkerHeirs h = withFallen();
        due("by a fallen one", NOT_POSSIBLE, h.strike(0, 1, 1));
        due("at a fallen one", NOT_POSSIBLE, h.strike(1, 0, 1));
    }

    private static void strikeSmashes() {
        ConkerHeirs g = with(9, 1, 9, 9, 1);
        smash(g, 0, 1);
        dueConker(g, 1, 1, 1, 100, 2, 0, NONE, 2, 0, 0);
        dueConker(g, 0, 0, 9, 0, 4, 1, NONE, 0, NONE, 1);
        due("a boast", NONE, g.boast(0, 7));
        // 2 and 3 crack the conker 0, which falls at wear 20: 4 + 9 strikes of 9 make the crack 81
        for (int i = 0; i < 9; i++) {
            due("cracking", 0, g.strike(i % 2 == 0 ? 2 : 3, 0, 9));
        }
        due("its crack", 81, g.conker(0, 2));
        due("cracking", 0, g.strike(3, 0, 9));
        due("cracking", 0, g.strike(3, 0, 8));
        due("its crack", 98, g.conker(0, 2));
        due("it strikes a soft one", 0, g.strike(0, 4, 9));
        due("its crack grows by 9 * 1 / 18", 98, g.conker(0, 2));
        due("just 100", 2, g.strike(2, 0, 2));
        dueConker(g, 0, 0, 9, 100, 18, 0, NONE, 2, 2, 1);
        due("1 victory and the victory of 0", 2, g.conker(2, 4));
        due("heirs", 2, g.count(7));
        due("none is lost", 0, g.count(5));
        // the striker is smashed by its own strike: 9 * 9 / 2 is 40
        ConkerHeirs h = with(1, 9);
        due("40", 0, h.strike(0, 1, 9));
        due("80", 0, h.strike(0, 1, 9));
        due("100", 1, h.strike(0, 1, 9));
        dueConker(h, 0, 0, 1, 100, 6, 0, NONE, 2, 1, 0);
        dueConker(h, 1, 1, 9, 3, 3, 1, NONE, 0, NONE, 1);
    }

    private static void strikeSmashesBoth() {
        ConkerHeirs g = with(2, 2, 9, 1, 1);
        // 2 cracks 0 and 1 to 98 each (40 + 40 + 18) and 3 and 4 to 81
        for (int conker = 0; conker < 2; conker++) {
            due("40", 0, g.strike(2, conker, 9));
            due("80", 0, g.strike(2, conker, 9));
            due("98", 0, g.strike(2, conker, 4));
            due("crack", 98, g.conker(conker, 2));
        }
        due("81", 0, g.strike(2, 3, 9));
        // 0 strikes 3 twice by 9 * 2 / 1: 99 and above 100, its own crack grows by 9 / 4 once too much
        due("99", 0, g.strike(0, 3, 3) + g.strike(0, 3, 3) + g.strike(0, 3, 3));
        due("crack of 0", 98, g.conker(0, 2));
        due("smashed", 2, g.strike(0, 3, 3));
        due("victory of 0", 1, g.conker(0, 4));
        due("boast of 0", NONE, g.boast(0, 4));
        due("boast of 1", NONE, g.boast(1, 5));
        due("both", 3, g.strike(0, 1, 4));
        dueConker(g, 0, 0, 2, 100, 8, 0, NONE, 2, NONE, 1);
        dueConker(g, 1, 1, 2, 100, 4, 0, NONE, 2, NONE, 0);
        due("victories", 0, g.count(4));
        due("lost", 1, g.count(5));
        due("with an heir", 1, g.count(7));
        due("boasts", 0, g.count(8));
    }

    private static void strikeWearsAndFalls() {
        ConkerHeirs g = withFallen();
        due("fallen", 1, g.conker(0, 6));
        due("wear", 20, g.conker(0, 3));
        due("crack stays: 10 times 7 * 9 / 18", 30, g.conker(0, 2));
        due("wear of the other", 10, g.conker(1, 3));
        due("crack of the other", 70, g.conker(1, 2));
        // the wear 19 and 2 more is 20
        ConkerHeirs h = with(9, 9, 9, 9, 9, 9);
        for (int i = 0; i < 19; i++) {
            due("wearing", 0, h.strike(0, 1 + i % 5, 1));
        }
        due("wear 19", 19, h.conker(0, 3));
        due("falls", 4, h.strike(0, 1, 9));
        due("wear 20", 20, h.conker(0, 3));
        // the struck one falls, and both do
        ConkerHeirs k = with(9, 9, 9, 9, 9, 9);
        for (int i = 0; i < 19; i++) {
            due("wearing", 0, k.strike(1 + i % 5, 0, 1));
        }
        due("the struck one falls", 8, k.strike(5, 0, 1));
        ConkerHeirs m = with(9, 9);
        for (int i = 0; i < 19; i++) {
            due("wearing", 0, m.strike(0, 1, 1));
        }
        due("both fall", 12, m.strike(0, 1, 1));
        due("fallen ones", 2, m.count(2));
        // the striker is smashed with the wear 20, and does not fall: 19 times 9 / 2, and 7 * 9 / 2
        ConkerHeirs n = with(1, 9, 9);
        for (int i = 0; i < 19; i++) {
            due("wearing", 0, n.strike(0, 1 + i % 2, 1));
        }
        due("smashed, not fallen", 1, n.strike(0, 2, 7));
        dueConker(n, 0, 0, 1, 100, 20, 0, NONE, 2, 2, 0);
    }

    private static void mend() {
        ConkerHeirs g = withFallen();
        due("in play", NOT_POSSIBLE, g.mend(1));
        due("no conker", NO_SUCH, g.mend(2));
        due("conker -1", NO_SUCH, g.mend(-1));
        due("conker highest", NO_SUCH, g.mend(HIGHEST));
        due("a boast", NONE, g.boast(0, 3));
        due("mended", 1, g.mend(0));
        dueConker(g, 0, 0, 9, 30, 0, 0, 3, 0, NONE, 0);
        duePlayer(g, 0, 1, 0, 1, 0, 0, 0, 0);
        due("in play", NOT_POSSIBLE, g.mend(0));
        ConkerHeirs h = withFallen();
        due("a thread", 2, h.thread(0, 1));
        due("the last string", 3, h.thread(0, 1));
        due("no string", NOT_POSSIBLE, h.mend(0));
        due("a string", 1, h.give(0, 1));
        due("mended on the last string", 0, h.mend(0));
        ConkerHeirs k = with(9, 1);
        smash(k, 0, 1);
        due("smashed", NOT_POSSIBLE, k.mend(1));
    }

    private static void stamp() {
        ConkerHeirs g = with(9, 1, 9);
        smash(g, 0, 1);
        for (int i = 0; i < 15; i++) {
            due("wearing", 0, g.strike(0, 2, 1));
        }
        due("falling", 4, g.strike(0, 2, 1));
        due("a boast", NONE, g.boast(0, 1));
        due("in play", NOT_POSSIBLE, g.stamp(2));
        due("smashed", NOT_POSSIBLE, g.stamp(1));
        due("no conker", NO_SUCH, g.stamp(3));
        due("conker -1", NO_SUCH, g.stamp(-1));
        due("conker lowest", NO_SUCH, g.stamp(LOWEST));
        due("the victory is lost", 1, g.stamp(0));
        dueConker(g, 0, 0, 9, 0, 20, 0, NONE, 2, NONE, 1);
        due("again", NOT_POSSIBLE, g.stamp(0));
        due("mend", NOT_POSSIBLE, g.mend(0));
        due("no string comes back", 2, g.player(0, 0));
        dueCounts(g, 3, 1, 0, 2, 0, 1, 18, 1, 0, 0, 5, 0);
        ConkerHeirs h = withFallen();
        due("no victory", 0, h.stamp(0));
        due("none lost", 0, h.count(5));
    }

    private static void boast() {
        ConkerHeirs g = with(9, 1);
        due("first", NONE, g.boast(0, 99));
        due("second", 99, g.boast(0, 0));
        due("third", 0, g.boast(0, 5));
        due("told", 5, g.conker(0, 5));
        due("it is an action", 5, g.count(10));
        due("no conker", NO_SUCH, g.boast(2, 100));
        due("conker -1", NO_SUCH, g.boast(-1, 0));
        due("victories -1", BAD_VALUE, g.boast(0, -1));
        due("victories 100", BAD_VALUE, g.boast(0, 100));
        due("victories lowest", BAD_VALUE, g.boast(0, LOWEST));
        due("boast of the soft one", NONE, g.boast(1, 1));
        smash(g, 0, 1);
        due("gone with the smashed one", NONE, g.conker(1, 5));
        due("smashed", NOT_POSSIBLE, g.boast(1, 1));
        due("value ahead of smashed", BAD_VALUE, g.boast(1, 100));
        due("it stays through strikes", 5, g.conker(0, 5));
        ConkerHeirs h = withFallen();
        due("of a fallen one", NONE, h.boast(0, 1));
        due("undone", 4, h.undo());
        due("no boast", NONE, h.conker(0, 5));
    }

    private static void doubt() {
        ConkerHeirs g = with(9, 1, 5);
        smash(g, 0, 1);
        due("as many as it has", NONE, g.boast(0, 1));
        due("its owner", BAD_VALUE, g.doubt(0, 0));
        due("the doubter", 2, g.doubt(2, 0));
        due("his shame", 1, g.player(2, 1));
        due("not the owner's", 0, g.player(0, 1));
        due("the boast is gone", NONE, g.conker(0, 5));
        due("no boast", NOT_POSSIBLE, g.doubt(2, 0));
        due("one more than it has", NONE, g.boast(0, 2));
        due("the owner", 0, g.doubt(2, 0));
        due("his shame", 1, g.player(0, 1));
        due("not the doubter's", 1, g.player(2, 1));
        due("a boast of 0", NONE, g.boast(2, 0));
        due("the doubter of 0", 1, g.doubt(1, 2));
        due("player -1", NO_SUCH, g.doubt(-1, 0));
        due("player 6", NO_SUCH, g.doubt(6, 0));
        due("no conker", NO_SUCH, g.doubt(0, 3));
        due("conker lowest", NO_SUCH, g.doubt(0, LOWEST));
        due("its owner, ahead of no boast", BAD_VALUE, g.doubt(1, 1));
        due("a smashed one has no boast", NOT_POSSIBLE, g.doubt(0, 1));
    }

    private static void bout() {
        // x = 0 gives 13849, 48742, 31223, 17180, 13925, 61346, 51939: the swings 2, 7, 5, 3, 2, 9, 8.
        // 0 strikes first: the crack of 1 is 9, 24, 46, 52, 61, 81, 100
        ConkerHeirs g = with(9, 2);
        due("strikes", 7, g.bout(1, 0, 0));
        dueConker(g, 0, 0, 9, 3, 8, 1, NONE, 0, NONE, 1);
        dueConker(g, 1, 1, 2, 100, 9, 0, NONE, 2, 0, 0);
        due("one action", 3, g.count(10));
        due("strikes so far", 7, g.count(6));
        due("no conker", NO_SUCH, g.bout(0, 2, -1));
        due("conker -1", NO_SUCH, g.bout(-1, 0, 0));
        due("x -1", BAD_VALUE, g.bout(0, 1, -1));
        due("x 65536, ahead of the same one", BAD_VALUE, g.bout(0, 0, 65536));
        due("itself", NOT_POSSIBLE, g.bout(0, 0, 65535));
        due("a smashed one", NOT_POSSIBLE, g.bout(0, 1, 5));
        ConkerHeirs h = with(9, 9);
        due("twenty strikes", 20, h.bout(0, 1, gentleX(20)));
        due("both fell with the last one", 2, h.count(2));
    }

    /** A beginning whose swings are at most 6, so that each strike wears by 1 alone. */
    private static int gentleX(int strikes) {
        for (int start = 0; start < 65536; start++) {
            int x = start;
            int gentle = 0;
            while (gentle < strikes && next(x) / 7282 < 6) {
                x = next(x);
                gentle++;
            }
            if (gentle == strikes) {
                return start;
            }
        }
        return -1;
    }

    private static void round() {
        ConkerHeirs g = new ConkerHeirs();
        due("no players", 0, g.round(0));
        due("it is an action", 1, g.count(10));
        due("x -1", BAD_VALUE, g.round(-1));
        due("x 65536", BAD_VALUE, g.round(65536));
        due("x lowest", BAD_VALUE, g.round(LOWEST));
        due("a conker", 0, g.thread(3, 5));
        due("one rests", 0, g.round(65535));
        due("two of one player", 1, g.thread(3, 5));
        due("he rests", 0, g.round(7));
        due("no strikes", 0, g.count(6));
        due("another player", 2, g.thread(1, 5));
        due("a bout", 1, g.round(7));
        due("the lower of two conkers is sent", 0, g.conker(1, 3));
        due("history", 5, g.count(10));
    }

    /** The draws are told here step by step, with the same numbers x as the bouts take. */
    private static void roundByShame() {
        ConkerHeirs g = with(9, 9, 9, 9, 9);
        due("boast", NONE, g.boast(0, 1));
        due("doubt", 0, g.doubt(1, 0));
        // the row is 1, 2, 3, 4, 0; x = 3 becomes 23832, index 1 + 23832 % 4 = 1: 1 against 2
        due("bouts", 2, g.round(3));
        ConkerHeirs h = with(9, 9, 9, 9, 9);
        int x = next(3);
        int strikes = h.bout(1, 2, x);
        for (int i = 0; i < strikes; i++) {
            x = next(x);
        }
        x = next(x);
        // the row is 3, 4, 0
        int other = x % 2 == 0 ? 4 : 0;
        h.bout(3, other, x);
        for (int conker = 0; conker < 5; conker++) {
            for (int what = 0; what < 9; what++) {
                due("conker " + conker + ", " + what, h.conker(conker, what), g.conker(conker, what));
            }
        }
        due("who is left over rests", 0, g.conker(other == 4 ? 0 : 4, 3));
    }

    private static void append() {
        ConkerHeirs g = new ConkerHeirs();
        due("31", BAD_VALUE, g.append(31));
        due("127", BAD_VALUE, g.append(127));
        due("lowest", BAD_VALUE, g.append(LOWEST));
        due("'t' and 65536", BAD_VALUE, g.append('t' + 65536));
        due("32", 1, g.append(32));
        due("126", 2, g.append(126));
        for (int i = 3; i <= 60; i++) {
            due("character " + i, i, g.append('a'));
        }
        due("full", TOO_MANY, g.append('a'));
        due("range ahead of room", BAD_VALUE, g.append(31));
        due("length", 60, g.count(11));
        due("not an action", 0, g.count(10));
        due("fault of the first one", 0, g.fault());
    }

    private static void clearText() {
        ConkerHeirs g = new ConkerHeirs();
        due("empty", 0, g.clearText());
        write(g, "0x1:9");
        due("five", 5, g.clearText());
        due("none", 0, g.count(11));
        due("fault", 0, g.fault());
        write(g, "t1");
        due("not the old ones", NONE, g.fault());
        due("not an action", 0, g.count(10));
    }

    private static void dueFault(String text, int want) {
        ConkerHeirs g = new ConkerHeirs();
        write(g, text);
        due("fault of " + text, want, g.fault());
        if (want != NONE) {
            due("run of " + text, -100 - want, g.run());
            due("no action", 0, g.count(10));
        }
        due("the text stays", text.length(), g.count(11));
    }

    private static void fault() {
        for (int number = 0; number < 30; number++) {
            dueFault("t" + number, NONE);
            dueFault("s" + number, NONE);
            dueFault(number + "x" + (29 - number) + ":" + (1 + number % 9), NONE);
            dueFault(number + "x", (number + "x").length());
            dueFault(number + "", (number + "").length());
        }
        dueFault("", 0);
        dueFault("30", 1);
        dueFault("t30", 2);
        dueFault("99x1:1", 1);
        dueFault("00x1:1", 1);
        dueFault("t01", 2);
        dueFault("100x1:1", 2);
        dueFault("t290", 3);
        dueFault("x", 0);
        dueFault(",", 0);
        dueFault("T1", 0);
        dueFault("0X1:1", 1);
        dueFault("0:1", 1);
        dueFault("0,1", 1);
        dueFault("0xx", 2);
        dueFault("0xt", 2);
        dueFault("0x1", 3);
        dueFault("0x3x", 3);
        dueFault("0x30", 3);
        dueFault("0x1x", 3);
        dueFault("0x1:", 4);
        dueFault("0x1:0", 4);
        dueFault("0x1:a", 4);
        dueFault("0x1:10", 5);
        dueFault("0x1:1,", 6);
        dueFault("0x1:1,,", 6);
        dueFault("0x1:1 ", 5);
        dueFault(" 0x1:1", 0);
        dueFault("0x1:1,t", 7);
        dueFault("0x1:1,t2,s3", NONE);
        dueFault("t1s2", 2);
        dueFault("t1x2:3", 2);
        dueFault("ts", 1);
        dueFault("t1,s2,29x28:9,", 14);
        String full = "t1,".repeat(20);
        dueFault(full, 60);
        dueFault(full.substring(0, 59), NONE);
        dueFault(full.substring(0, 57) + "t10", NONE);
        dueFault(full.substring(0, 56) + "-t1,", 56);
    }

    private static void run() {
        ConkerHeirs g = with(9, 1, 9);
        write(g, "0x1:9,0x1:9,2x0:3");
        due("three orders", 3, g.run());
        due("smashed", 0, g.conker(1, 7));
        due("crack: 3 * 9 / 9", 3, g.conker(0, 2));
        due("one action", 4, g.count(10));
        due("text", 17, g.count(11));
        due("undone at once", 3, g.undo());
        due("strikes", 0, g.count(6));
        due("in play", 0, g.conker(1, 6));
        due("again", 3, g.run());
        // thread again and stamp on
        ConkerHeirs h = withFallen(9, 9);
        write(h, "t0,2x1:1,s1");
        due("t, a strike, and s of one in play", 2, h.run());
        due("mended", 0, h.conker(0, 6));
        due("string", 1, h.player(0, 0));
        due("not stamped", 0, h.conker(1, 6));
        ConkerHeirs k = withFallen();
        write(k, "s0,t0");
        due("s, and t of a smashed one", 1, k.run());
        due("stamped", 2, k.conker(0, 6));
        // numbers of two digits
        ConkerHeirs m = with(1, 2, 3, 4, 5, 6, 7, 8, 9, 1, 2, 3, 4);
        write(m, "12x11:5,7x10:8");
        due("two digits", 2, m.run());
        due("crack: 5 * 4 / 3", 6, m.conker(11, 2));
        due("crack: 8 * 8 / 2", 32, m.conker(10, 2));
        due("wear of the striker", 2, m.conker(7, 3));
    }

    private static void runStops() {
        ConkerHeirs g = with(9, 9);
        write(g, "0x2:1,0x1:1");
        due("no such conker", 0, g.run());
        due("one action all the same", 3, g.count(10));
        write(g, "0x1:1,0x0:1,0x1:1");
        due("not possible", 1, g.run());
        due("strikes", 1, g.count(6));
        write(g, "t0");
        due("not fallen", 0, g.run());
        write(g, "s29");
        due("no such conker", 0, g.run());
        write(g, "0x1:1,0x1");
        due("not complete", -109, g.run());
        due("nothing is done", 1, g.count(6));
        due("history", 5, g.count(10));
    }

    private static void undo() {
        ConkerHeirs g = new ConkerHeirs();
        for (int i = 1; i <= 7; i++) {
            due("give", 3 + i, g.give(0, 1));
        }
        due("five states", 5, g.count(10));
        write(g, "t0");
        due("save", 0, g.save());
        for (int left = 4; left >= 0; left--) {
            due("left", left, g.undo());
            due("strings", 5 + left, g.player(0, 0));
        }
        due("none", NONE, g.undo());
        due("the oldest were dropped", 5, g.player(0, 0));
        due("the text stays", 2, g.count(11));
        due("the snapshot stays", 0, g.restore());
        due("strings of the snapshot", 10, g.player(0, 0));
        due("undo of restore", 0, g.undo());
        due("strings", 5, g.player(0, 0));
    }

    private static void undoOfEachAction() {
        ConkerHeirs g = withFallen();
        due("stamp", 0, g.stamp(0));
        due("undo", 4, g.undo());
        due("fallen again", 1, g.conker(0, 6));
        due("mend", 1, g.mend(0));
        due("undo", 4, g.undo());
        due("strings", 2, g.player(0, 0));
        due("wear", 20, g.conker(0, 3));
        due("boast", NONE, g.boast(1, 9));
        due("doubt", 1, g.doubt(0, 1));
        due("undo of doubt", 4, g.undo());
        due("shame", 0, g.player(1, 1));
        due("boast is back", 9, g.conker(1, 5));
        due("undo of boast", 3, g.undo());
        due("no boast", NONE, g.conker(1, 5));
        due("thread", 2, g.thread(3, 4));
        int strikes = g.bout(1, 2, 0);
        due("strikes of the bout", 10 + strikes, g.count(6));
        due("undo of bout", 4, g.undo());
        due("strikes", 10, g.count(6));
        due("undo of thread", 3, g.undo());
        due("conkers", 2, g.count(0));
        due("no conker", NO_SUCH, g.conker(2, 0));
    }

    private static void save() {
        ConkerHeirs g = with(9, 1, 5);
        due("three in play", 3, g.save());
        due("not an action", 3, g.count(10));
        smash(g, 0, 1);
        due("restore", 3, g.restore());
        smash(g, 0, 1);
        due("two in play", 2, g.save());
        due("the earlier one is replaced", 2, g.restore());
        due("smashed", 2, g.conker(1, 6));
    }

    private static void restore() {
        ConkerHeirs g = with(9, 1);
        due("no snapshot", NOT_POSSIBLE, g.restore());
        due("no action", 2, g.count(10));
        due("save", 2, g.save());
        smash(g, 0, 1);
        due("restore", 2, g.restore());
        dueCounts(g, 2, 2, 0, 0, 0, 0, 0, 0, 0, 0, 5, 0);
        due("undo of restore", 4, g.undo());
        due("smashed", 1, g.count(3));
        due("the snapshot remains", 2, g.restore());
        due("thread", 2, g.thread(1, 5));
        due("restore", 2, g.restore());
        due("two conkers", 2, g.count(0));
        due("strings", 2, g.player(1, 0));
        due("the snapshot is no part of the state", 4, g.undo());
        due("three conkers", 3, g.count(0));
    }

    private static void conker() {
        ConkerHeirs g = with(9, 1, 1);
        smash(g, 0, 1);
        smash(g, 0, 2);
        due("boast", NONE, g.boast(0, 3));
        dueConker(g, 0, 0, 9, 0, 8, 2, 3, 0, NONE, 2);
        dueConker(g, 2, 2, 1, 100, 2, 0, NONE, 2, 0, 0);
        due("no conker", NO_SUCH, g.conker(3, 9));
        due("conker -1", NO_SUCH, g.conker(-1, 0));
        due("conker -5", NO_SUCH, g.conker(NONE, 0));
        due("what -1", BAD_VALUE, g.conker(0, -1));
        due("what 9", BAD_VALUE, g.conker(0, 9));
        due("what highest", BAD_VALUE, g.conker(0, HIGHEST));
        due("nothing changed", 5, g.count(10));
    }

    private static void player() {
        ConkerHeirs g = with(9, 1, 1, 9, 9, 9, 9, 1);
        // player 0 has 0 and 6, player 1 has 1 and 7
        duePlayer(g, 0, 1, 0, 2, 0, 0, 0, 0);
        smash(g, 6, 1);
        duePlayer(g, 0, 1, 0, 2, 0, 0, 1, 6);
        duePlayer(g, 1, 1, 0, 1, 0, 1, 0, 7);
        smash(g, 0, 2);
        due("of several with as many the lower one", 0, g.player(0, 6));
        due("victories", 2, g.player(0, 5));
        for (int i = 0; i < 15; i++) {
            due("wearing", 0, g.strike(0, 3 + i % 3, 1));
        }
        due("falling", 4, g.strike(0, 3, 1));
        duePlayer(g, 0, 1, 0, 1, 1, 0, 2, 6);
        duePlayer(g, 2, 2, 0, 0, 0, 1, 0, NONE);
        due("player -1", NO_SUCH, g.player(-1, 7));
        due("player 6", NO_SUCH, g.player(6, 0));
        due("what -1", BAD_VALUE, g.player(0, -1));
        due("what 7", BAD_VALUE, g.player(0, 7));
    }

    private static void ranked() {
        ConkerHeirs g = with(9, 1, 9, 1, 1, 9);
        smash(g, 2, 1);
        int[] first = {2, 0, 3, 4, 5};
        for (int rank = 0; rank < 5; rank++) {
            due("ranked " + rank, first[rank], g.ranked(rank));
        }
        due("not so many", NONE, g.ranked(5));
        smash(g, 5, 3);
        smash(g, 5, 4);
        due("most victories", 5, g.ranked(0));
        due("fewer", 2, g.ranked(1));
        due("none", 0, g.ranked(2));
        due("smashed ones are left out", NONE, g.ranked(3));
        due("rank -1", BAD_VALUE, g.ranked(-1));
        due("rank lowest", BAD_VALUE, g.ranked(LOWEST));
        due("rank highest", NONE, g.ranked(HIGHEST));
        ConkerHeirs h = withFallen();
        due("a fallen one counts", 0, h.ranked(0));
        due("the other one", 1, h.ranked(1));
    }

    private static void line() {
        ConkerHeirs g = with(9, 1, 3, 1, 6);
        smash(g, 0, 1);
        due("one", 1, g.line(0));
        due("none", 0, g.line(1));
        due("54", 0, g.strike(4, 3, 9));
        due("108", 2, g.strike(4, 3, 9));
        // 9 * 9 / 6 is 13: 0 smashes 4 with the eighth strike, and falls by it (wear 4 and 16)
        for (int i = 0; i < 7; i++) {
            due("cracking 4", 0, g.strike(0, 4, 9));
        }
        due("smashes and falls", 6, g.strike(0, 4, 9));
        due("1 for each, and the victory of 4", 3, g.conker(0, 4));
        due("its line", 3, g.line(0));
        due("it smashed two of them", 2, g.conker(0, 8));
        due("the line of the smashed one stays", 1, g.line(4));
        due("the line of 3", 0, g.line(3));
        due("no conker", NO_SUCH, g.line(5));
        due("conker -1", NO_SUCH, g.line(-1));
        due("conker -5", NO_SUCH, g.line(NONE));
    }

    private static void count() {
        ConkerHeirs g = with(9, 1, 9, 9);
        smash(g, 0, 1);
        due("boast", NONE, g.boast(0, 1));
        due("boast", NONE, g.boast(2, 1));
        due("boast", NONE, g.boast(3, 0));
        for (int i = 0; i < 15; i++) {
            due("wearing", 0, g.strike(0, 2, 1));
        }
        due("falling", 4, g.strike(0, 2, 1));
        write(g, "t0,s");
        dueCounts(g, 4, 2, 1, 1, 1, 0, 18, 1, 3, 1, 5, 4);
        due("stamp", 1, g.stamp(0));
        dueCounts(g, 4, 2, 0, 2, 0, 1, 18, 1, 2, 1, 5, 4);
        due("undo", 4, g.undo());
        dueCounts(g, 4, 2, 1, 1, 1, 0, 18, 1, 3, 1, 4, 4);
        due("what -1", BAD_VALUE, g.count(-1));
        due("what 12", BAD_VALUE, g.count(12));
        due("what lowest", BAD_VALUE, g.count(LOWEST));
    }

    private static void ifStruck() {
        ConkerHeirs g = with(9, 1, 9, 5, 5, 5, 5);
        due("nothing", 0, g.ifStruck(0, 1, 9));
        due("nothing changed", 0, g.conker(1, 2));
        due("no action", 5, g.count(10));
        due("no strike", 0, g.count(6));
        due("strike", 0, g.strike(0, 1, 9));
        due("smashed", 2, g.ifStruck(0, 1, 9));
        due("not with less", 0, g.ifStruck(0, 1, 2));
        due("just so", 2, g.ifStruck(0, 1, 3));
        due("still in play", 0, g.conker(1, 6));
        due("no conker", NO_SUCH, g.ifStruck(0, 7, 0));
        due("conker -1", NO_SUCH, g.ifStruck(-1, 0, 1));
        due("swing 0", BAD_VALUE, g.ifStruck(0, 6, 0));
        due("swing 10", BAD_VALUE, g.ifStruck(0, 6, 10));
        due("the same player", NOT_POSSIBLE, g.ifStruck(0, 6, 1));
        ConkerHeirs h = withFallen();
        due("a fallen one", NOT_POSSIBLE, h.ifStruck(1, 0, 1));
    }

    private static void leastSwing() {
        ConkerHeirs g = with(9, 1, 1, 5, 5, 5, 5);
        due("none does it", NONE, g.leastSwing(0, 1));
        due("strike", 0, g.strike(0, 1, 9));
        due("27 is enough for 19", 3, g.leastSwing(0, 1));
        due("nothing changed", 81, g.conker(1, 2));
        due("the striker only", NONE, g.leastSwing(1, 0));
        due("no conker", NO_SUCH, g.leastSwing(0, 7));
        due("conker -1", NO_SUCH, g.leastSwing(-1, 0));
        due("the same player", NOT_POSSIBLE, g.leastSwing(0, 6));
        due("itself", NOT_POSSIBLE, g.leastSwing(1, 1));
        due("smashed", 2, g.strike(0, 1, 3));
        due("a smashed one", NOT_POSSIBLE, g.leastSwing(0, 1));
        // both of 98: each swing that smashes the struck one (2 and more) from 4 on smashes the striker too
        ConkerHeirs h = with(2, 2, 9);
        for (int conker = 0; conker < 2; conker++) {
            due("40", 0, h.strike(2, conker, 9));
            due("80", 0, h.strike(2, conker, 9));
            due("98", 0, h.strike(2, conker, 4));
        }
        due("2 smashes it alone", 2, h.leastSwing(0, 1));
        due("3 does too", 2, h.ifStruck(0, 1, 3));
        due("4 smashes both", 3, h.ifStruck(0, 1, 4));
        due("1 of crack more", 0, h.strike(0, 1, 1));
        due("1 smashes it alone", 1, h.leastSwing(0, 1));
        due("2 and more smash both of 99 and 98", NONE, h.leastSwing(1, 0));
    }

    private static void winner() {
        ConkerHeirs g = with(9, 1, 9, 5, 5, 5, 5);
        for (int x = 0; x < 65536; x += 4369) {
            due("the hard one", 0, g.winner(0, 1, x));
            due("the hard one", 0, g.winner(1, 0, x));
        }
        due("x highest", 0, g.winner(0, 1, 65535));
        due("two hard ones fall ahead", NONE, g.winner(0, 2, 3));
        due("nothing changed", 0, g.count(6));
        due("no action", 5, g.count(10));
        due("no conker", NO_SUCH, g.winner(0, 7, -1));
        due("x -1", BAD_VALUE, g.winner(0, 1, -1));
        due("x 65536, ahead of the same player", BAD_VALUE, g.winner(0, 6, 65536));
        due("the same player", NOT_POSSIBLE, g.winner(0, 6, 5));
        due("itself", NOT_POSSIBLE, g.winner(0, 0, 5));
        smash(g, 0, 1);
        due("a smashed one", NOT_POSSIBLE, g.winner(0, 1, 5));
    }

    private static void share() {
        ConkerHeirs g = with(9, 1, 9, 1, 1);
        due("none yet", 0.0f, g.share(0));
        smash(g, 0, 1);
        due("all", 1.0f, g.share(0));
        due("nothing", 0.0f, g.share(2));
        smash(g, 2, 3);
        due("half", 0.5f, g.share(2));
        smash(g, 0, 4);
        due("two thirds, as a float", 2.0f / 3.0f, g.share(0));
        due("a third, as a float", 1.0f / 3.0f, g.share(2));
        due("player -1", 0.0f, g.share(-1));
        due("player 6", 0.0f, g.share(6));
        due("player lowest", 0.0f, g.share(LOWEST));
    }
}
