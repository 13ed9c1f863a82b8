import java.util.ArrayList;
import java.util.List;
import java.util.function.Supplier;
import java.util.function.ToIntFunction;

/**
 * Each refused call answers the code that comes first in its method's list, and changes nothing: one of
 * two like games makes the call, and both answer alike then, and so they do after undo, restore and run.
 */
public final class RefusalsTest extends Parts {
    private static final int[] NO_PLAYER = {-1, 6, NONE, LOWEST, HIGHEST};
    private static final int[] NO_CONKER = {-1, 7, 29, 30, NONE, LOWEST, HIGHEST};
    private static final int[] NO_DIGIT = {0, 10, -1, LOWEST, HIGHEST};
    private static final int[] NO_BOAST = {-1, 100, NONE, LOWEST, HIGHEST};
    private static final int[] NO_X = {-1, 65536, LOWEST, HIGHEST};
    private static final int[] NO_SIGN = {31, 127, -1, 0, 't' + 256, 't' + 65536, LOWEST, HIGHEST};

    public static void main(String[] args) {
        busyGame();
        thread();
        threadWithThirty();
        give();
        strike();
        mend();
        stamp();
        boast();
        doubt();
        bout();
        round();
        append();
        run();
        undo();
        restore();
        queries();
        CHECKS.close("RefusalsTest");
    }

    // ---- games in which calls are refused

    /**
     * Players 0 to 3 have the conkers 0 and 4, 1 and 5 and 6, 2, and 3. 1 is smashed, 2 and 5 are fallen,
     * player 1 has no string, player 5 has twenty, and the snapshot differs from the state.
     */
    private static ConkerHeirs busy() {
        ConkerHeirs g = new ConkerHeirs();
        int[] players = {0, 1, 2, 3, 0, 1, 1};
        int[] hardness = {9, 1, 9, 5, 5, 9, 3};
        for (int conker = 0; conker < 7; conker++) {
            due("thread", conker, g.thread(players[conker], hardness[conker]));
        }
        due("give", 12, g.give(5, 9));
        due("give", 20, g.give(5, 8));
        smash(g, 0, 1);
        strikeTimes(g, 19, 2, 5, 1);
        due("two fall", 12, g.strike(2, 5, 1));
        due("boast", NONE, g.boast(0, 1));
        due("doubt", 3, g.doubt(3, 0));
        due("save", 4, g.save());
        due("boast", NONE, g.boast(2, 2));
        due("boast", NONE, g.boast(4, 0));
        due("strike", 0, g.strike(3, 4, 2));
        write(g, "0x3:1,t2");
        return g;
    }

    private static ConkerHeirs busyWithFullText() {
        ConkerHeirs g = busy();
        write(g, "0x3:1,".repeat(9) + "3x4:22");
        return g;
    }

    private static ConkerHeirs withFewStates() {
        ConkerHeirs g = with(9, 1);
        due("undo", 1, g.undo());
        due("undo", 0, g.undo());
        write(g, "t0");
        return g;
    }

    private static ConkerHeirs thirty(int strings) {
        ConkerHeirs g = new ConkerHeirs();
        int conker = 0;
        for (int player = 0; player < 6; player++) {
            due("give", 5, g.give(player, 2));
            for (int i = 0; i < 5; i++) {
                due("thread", conker, g.thread(player, 1 + conker % 9));
                conker++;
            }
        }
        if (strings > 0) {
            due("give", strings, g.give(4, strings));
        }
        return g;
    }

    private static void busyGame() {
        ConkerHeirs g = busy();
        int[] how = {0, 2, 1, 0, 0, 1, 0};
        for (int conker = 0; conker < 7; conker++) {
            due("how " + conker + " is", how[conker], g.conker(conker, 6));
        }
        due("strings of player 1", 0, g.player(1, 0));
        due("strings of player 5", 20, g.player(5, 0));
        due("fault", NONE, g.fault());
        due("states", 5, g.count(10));
    }

    // ---- two like games

    private static void refused(String call, int code, Supplier<ConkerHeirs> make, ToIntFunction<ConkerHeirs> act) {
        for (int way = 0; way <= 7; way++) {
            ConkerHeirs untouched = make.get();
            ConkerHeirs called = make.get();
            due(call, code, act.applyAsInt(called));
            due(call + ", way " + way, goOn(untouched, way), goOn(called, way));
            if (!allAnswers(untouched).equals(allAnswers(called))) {
                CHECKS.holds(call + " changes nothing, way " + way, false);
            }
        }
    }

    /** By these ways all that a game holds comes to light: it stays, goes back 1 to 5 times, or ahead. */
    private static int goOn(ConkerHeirs g, int way) {
        int answer = 0;
        for (int i = 0; i < way && way <= 5; i++) {
            answer = g.undo();
        }
        if (way == 6) {
            answer = g.restore();
        }
        return way == 7 ? g.run() : answer;
    }

    private static List<Integer> allAnswers(ConkerHeirs g) {
        List<Integer> all = new ArrayList<>();
        int conkers = g.count(0);
        for (int what = 0; what < 12; what++) {
            all.add(g.count(what));
        }
        for (int conker = 0; conker < conkers; conker++) {
            for (int what = 0; what < 9; what++) {
                all.add(g.conker(conker, what));
            }
        }
        for (int player = 0; player < 6; player++) {
            for (int what = 0; what < 7; what++) {
                all.add(g.player(player, what));
            }
        }
        all.add(g.fault());
        return all;
    }

    private static void refusedIfBusy(String call, int code, ToIntFunction<ConkerHeirs> act) {
        refused(call, code, RefusalsTest::busy, act);
    }

    // ---- the promises

    private static void thread() {
        for (int no : NO_PLAYER) {
            refusedIfBusy("thread of player " + no, NO_SUCH, g -> g.thread(no, 5));
            refusedIfBusy("thread of player " + no + ", hardness 0", NO_SUCH, g -> g.thread(no, 0));
        }
        for (int no : NO_DIGIT) {
            refusedIfBusy("thread of hardness " + no, BAD_VALUE, g -> g.thread(0, no));
            refusedIfBusy("thread of hardness " + no + ", no string", BAD_VALUE, g -> g.thread(1, no));
        }
        refusedIfBusy("thread without a string", NOT_POSSIBLE, g -> g.thread(1, 5));
    }

    private static void threadWithThirty() {
        refused("thread of conker 30, no player", NO_SUCH, () -> thirty(0), g -> g.thread(6, 5));
        refused("thread of conker 30, hardness 10", BAD_VALUE, () -> thirty(9), g -> g.thread(4, 10));
        refused("thread of conker 30, no string", NOT_POSSIBLE, () -> thirty(9), g -> g.thread(3, 5));
        refused("thread of conker 30", TOO_MANY, () -> thirty(1), g -> g.thread(4, 5));
    }

    private static void give() {
        for (int no : NO_PLAYER) {
            refusedIfBusy("give to player " + no, NO_SUCH, g -> g.give(no, 5));
            refusedIfBusy("give of 0 to player " + no, NO_SUCH, g -> g.give(no, 0));
        }
        for (int no : NO_DIGIT) {
            refusedIfBusy("give of " + no, BAD_VALUE, g -> g.give(0, no));
            refusedIfBusy("give of " + no + " to 20", BAD_VALUE, g -> g.give(5, no));
        }
        for (int strings = 1; strings <= 9; strings++) {
            int some = strings;
            refusedIfBusy("give of " + some + " to 20", TOO_MANY, g -> g.give(5, some));
        }
    }

    private static void strike() {
        for (int no : NO_CONKER) {
            refusedIfBusy("strike by " + no, NO_SUCH, g -> g.strike(no, 0, 5));
            refusedIfBusy("strike at " + no, NO_SUCH, g -> g.strike(0, no, 5));
            refusedIfBusy("strike by itself, " + no, NO_SUCH, g -> g.strike(no, no, 5));
            refusedIfBusy("strike at " + no + ", swing 0", NO_SUCH, g -> g.strike(0, no, 0));
            refusedIfBusy("strike at " + no + " by a fallen one", NO_SUCH, g -> g.strike(2, no, 10));
        }
        for (int no : NO_DIGIT) {
            refusedIfBusy("strike with " + no, BAD_VALUE, g -> g.strike(0, 3, no));
            refusedIfBusy("strike with " + no + ", same player", BAD_VALUE, g -> g.strike(0, 4, no));
            refusedIfBusy("strike with " + no + ", smashed", BAD_VALUE, g -> g.strike(0, 1, no));
            refusedIfBusy("strike with " + no + ", fallen", BAD_VALUE, g -> g.strike(2, 0, no));
        }
        int[][] pairs = {{0, 4}, {4, 0}, {0, 0}, {0, 1}, {1, 0}, {0, 2}, {2, 0}, {2, 5}, {5, 6}, {1, 2}, {1, 6}};
        for (int[] pair : pairs) {
            String name = pair[0] + " and " + pair[1];
            refusedIfBusy("strike of " + name, NOT_POSSIBLE, g -> g.strike(pair[0], pair[1], 5));
            refusedIfBusy("ifStruck of " + name, NOT_POSSIBLE, g -> g.ifStruck(pair[0], pair[1], 5));
            refusedIfBusy("leastSwing of " + name, NOT_POSSIBLE, g -> g.leastSwing(pair[0], pair[1]));
            refusedIfBusy("bout of " + name, NOT_POSSIBLE, g -> g.bout(pair[0], pair[1], 0));
            refusedIfBusy("winner of " + name, NOT_POSSIBLE, g -> g.winner(pair[0], pair[1], 0));
        }
    }

    private static void mend() {
        for (int no : NO_CONKER) {
            refusedIfBusy("mend of " + no, NO_SUCH, g -> g.mend(no));
        }
        refusedIfBusy("mend of one in play", NOT_POSSIBLE, g -> g.mend(0));
        refusedIfBusy("mend of a smashed one", NOT_POSSIBLE, g -> g.mend(1));
        refusedIfBusy("mend without a string", NOT_POSSIBLE, g -> g.mend(5));
    }

    private static void stamp() {
        for (int no : NO_CONKER) {
            refusedIfBusy("stamp on " + no, NO_SUCH, g -> g.stamp(no));
        }
        refusedIfBusy("stamp on one in play", NOT_POSSIBLE, g -> g.stamp(0));
        refusedIfBusy("stamp on a smashed one", NOT_POSSIBLE, g -> g.stamp(1));
    }

    private static void boast() {
        for (int no : NO_CONKER) {
            refusedIfBusy("boast of " + no, NO_SUCH, g -> g.boast(no, 5));
            refusedIfBusy("boast of " + no + ", 100", NO_SUCH, g -> g.boast(no, 100));
        }
        for (int no : NO_BOAST) {
            refusedIfBusy("boast with " + no, BAD_VALUE, g -> g.boast(0, no));
            refusedIfBusy("boast with " + no + " of a smashed one", BAD_VALUE, g -> g.boast(1, no));
        }
        refusedIfBusy("boast of a smashed one", NOT_POSSIBLE, g -> g.boast(1, 0));
    }

    private static void doubt() {
        for (int no : NO_PLAYER) {
            refusedIfBusy("doubt by " + no, NO_SUCH, g -> g.doubt(no, 2));
        }
        for (int no : NO_CONKER) {
            refusedIfBusy("doubt of " + no, NO_SUCH, g -> g.doubt(0, no));
        }
        refusedIfBusy("doubt of nothing by nobody", NO_SUCH, g -> g.doubt(-1, -1));
        refusedIfBusy("doubt of his own", BAD_VALUE, g -> g.doubt(2, 2));
        refusedIfBusy("doubt of his own without a boast", BAD_VALUE, g -> g.doubt(0, 0));
        refusedIfBusy("doubt of his own, smashed", BAD_VALUE, g -> g.doubt(1, 1));
        refusedIfBusy("doubt without a boast", NOT_POSSIBLE, g -> g.doubt(1, 0));
        refusedIfBusy("doubt of a smashed one", NOT_POSSIBLE, g -> g.doubt(0, 1));
    }

    private static void bout() {
        for (int no : NO_CONKER) {
            refusedIfBusy("bout by " + no, NO_SUCH, g -> g.bout(no, 0, 5));
            refusedIfBusy("bout with " + no, NO_SUCH, g -> g.bout(0, no, -1));
            refusedIfBusy("winner by " + no, NO_SUCH, g -> g.winner(no, 0, 65536));
            refusedIfBusy("winner with " + no, NO_SUCH, g -> g.winner(0, no, 5));
        }
        for (int no : NO_X) {
            refusedIfBusy("bout with x " + no, BAD_VALUE, g -> g.bout(0, 3, no));
            refusedIfBusy("bout with x " + no + ", same player", BAD_VALUE, g -> g.bout(0, 4, no));
            refusedIfBusy("bout with x " + no + ", smashed", BAD_VALUE, g -> g.bout(1, 0, no));
            refusedIfBusy("winner with x " + no, BAD_VALUE, g -> g.winner(0, 3, no));
            refusedIfBusy("winner with x " + no + ", fallen", BAD_VALUE, g -> g.winner(0, 2, no));
        }
    }

    private static void round() {
        for (int no : NO_X) {
            refusedIfBusy("round with x " + no, BAD_VALUE, g -> g.round(no));
        }
    }

    private static void append() {
        for (int no : NO_SIGN) {
            refusedIfBusy("append of " + no, BAD_VALUE, g -> g.append(no));
            refused("append of " + no + ", full", BAD_VALUE, RefusalsTest::busyWithFullText, g -> g.append(no));
        }
        refused("append, full", TOO_MANY, RefusalsTest::busyWithFullText, g -> g.append(','));
    }

    private static void run() {
        refused("run of a full text", -159, RefusalsTest::busyWithFullText, ConkerHeirs::run);
        String[] texts = {"", "?", "0x3:1,", "0x3:1,30x1:1", "0x3:1 ", "t2,s5,"};
        int[] faults = {0, 0, 6, 7, 5, 6};
        for (int i = 0; i < texts.length; i++) {
            String text = texts[i];
            Supplier<ConkerHeirs> make = () -> {
                ConkerHeirs g = busy();
                write(g, text);
                return g;
            };
            refused("run of '" + text + "'", -100 - faults[i], make, ConkerHeirs::run);
        }
    }

    private static void undo() {
        refused("undo of nothing", NONE, RefusalsTest::withFewStates, ConkerHeirs::undo);
    }

    private static void restore() {
        refused("restore of nothing", NOT_POSSIBLE, RefusalsTest::withFewStates, ConkerHeirs::restore);
        refused("restore of nothing", NOT_POSSIBLE, () -> with(9, 1), ConkerHeirs::restore);
    }

    private static void queries() {
        for (int no : NO_CONKER) {
            refusedIfBusy("conker " + no, NO_SUCH, g -> g.conker(no, 9));
            refusedIfBusy("line of " + no, NO_SUCH, g -> g.line(no));
            refusedIfBusy("ifStruck by " + no, NO_SUCH, g -> g.ifStruck(no, 0, 0));
            refusedIfBusy("ifStruck at " + no, NO_SUCH, g -> g.ifStruck(0, no, 5));
            refusedIfBusy("leastSwing by " + no, NO_SUCH, g -> g.leastSwing(no, 0));
            refusedIfBusy("leastSwing at " + no, NO_SUCH, g -> g.leastSwing(2, no));
        }
        for (int no : NO_PLAYER) {
            refusedIfBusy("player " + no, NO_SUCH, g -> g.player(no, 7));
            refusedIfBusy("share of " + no, 0, g -> (int) g.share(no));
        }
        for (int no : NO_DIGIT) {
            refusedIfBusy("ifStruck with " + no, BAD_VALUE, g -> g.ifStruck(0, 3, no));
            refusedIfBusy("ifStruck with " + no + ", same player", BAD_VALUE, g -> g.ifStruck(0, 4, no));
        }
        refusedIfBusy("conker, what 9", BAD_VALUE, g -> g.conker(0, 9));
        refusedIfBusy("player, what 7", BAD_VALUE, g -> g.player(0, 7));
        refusedIfBusy("count, what 12", BAD_VALUE, g -> g.count(12));
        refusedIfBusy("rank -1", BAD_VALUE, g -> g.ranked(-1));
        // no refusals, but they change nothing either
        refusedIfBusy("ranked", 0, g -> g.ranked(0));
        refusedIfBusy("ranked past the end", NONE, g -> g.ranked(6));
        refusedIfBusy("ifStruck", 0, g -> g.ifStruck(0, 3, 9));
        refusedIfBusy("leastSwing", NONE, g -> g.leastSwing(0, 3));
        refusedIfBusy("winner", busy().winner(0, 3, 77), g -> g.winner(0, 3, 77));
        refusedIfBusy("share", 1, g -> (int) g.share(0));
        refusedIfBusy("line", 1, g -> g.line(0));
        refusedIfBusy("fault", NONE, ConkerHeirs::fault);
    }
}
