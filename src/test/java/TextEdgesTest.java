/** The edges that the document names for text, history and snapshot (promises 11 to 17), a part for each. */
public final class TextEdgesTest extends Parts {
    private static final String DIGITS = "0123456789";

    public static void main(String[] args) {
        appendLeastAndMost();
        appendUpToSixty();
        clearEmptyAndFull();
        faultOfEachNextCharacter();
        faultOfEachConker();
        faultOfEachSwing();
        faultOfEmptyText();
        faultOfFullText();
        faultChangesNothing();
        runOfTextThatIsNoScript();
        runOfNoOrderIsOneAction();
        runOfOneOrder();
        runOfSeventeenOrders();
        runOfTenStrikes();
        runOfTheHighestNumbers();
        runStopsAtNoSuchConker();
        runStopsAtSamePlayer();
        runStopsAtSmashed();
        runStopsWithoutString();
        runLeavesText();
        undoOfEmptyHistory();
        sixthStateDropsTheOldest();
        eachActionIsRecorded();
        whatIsNoAction();
        undoBringsAllBack();
        undoBringsShameBack();
        undoBringsOwnersBack();
        undoLeavesTextAndSnapshot();
        undoIsNotUndone();
        saveOfEmptyGame();
        saveCountsThoseInPlay();
        saveReplacesTheEarlierOne();
        restoreOfSameStateIsRecorded();
        snapshotRemains();
        CHECKS.close("TextEdgesTest");
    }

    // ---- promises 11 and 12: append, clearText

    private static void appendLeastAndMost() {
        ConkerHeirs g = new ConkerHeirs();
        for (int character = 32; character <= 91; character++) {
            due("append " + character, character - 31, g.append(character));
        }
        ConkerHeirs h = new ConkerHeirs();
        for (int character = 92; character <= 126; character++) {
            due("append " + character, character - 91, h.append(character));
        }
        due("127", BAD_VALUE, h.append(127));
        due("31", BAD_VALUE, h.append(31));
        due("length", 35, h.count(11));
    }

    private static void appendUpToSixty() {
        ConkerHeirs g = new ConkerHeirs();
        for (int length = 1; length <= 60; length++) {
            due("append", length, g.append('0'));
        }
        due("full", TOO_MANY, g.append('0'));
        due("full, and out of range", BAD_VALUE, g.append(127));
        due("length", 60, g.count(11));
        due("cleared", 60, g.clearText());
        due("room again", 1, g.append('0'));
    }

    private static void clearEmptyAndFull() {
        ConkerHeirs g = new ConkerHeirs();
        due("empty", 0, g.clearText());
        write(g, "0x1:1,".repeat(10));
        due("full", 60, g.clearText());
        due("empty again", 0, g.clearText());
        due("fault", 0, g.fault());
        due("length", 0, g.count(11));
    }

    // ---- promise 13: fault

    private static void dueFault(String text, int want) {
        ConkerHeirs g = new ConkerHeirs();
        write(g, text);
        due("fault of '" + text + "'", want, g.fault());
        if (want != NONE) {
            due("run of '" + text + "'", -100 - want, g.run());
            due("history", 0, g.count(10));
        }
    }

    /** Behind a beginning, each character of 32 to 126 is one that may stand there, or it is the fault. */
    private static void dueNext(String beginning, String allowed, String completing) {
        for (char c = 32; c <= 126; c++) {
            if (allowed.indexOf(c) < 0) {
                dueFault(beginning + c, beginning.length());
                dueFault(beginning + c + ",t1", beginning.length());
            } else if (completing.indexOf(c) < 0) {
                dueFault(beginning + c, beginning.length() + 1);
            } else {
                dueFault(beginning + c, NONE);
            }
        }
    }

    private static void faultOfEachNextCharacter() {
        String[] before = {"", "s29,", "10x29:9,t0,"};
        for (String b : before) {
            dueNext(b, DIGITS + "ts", "");
            dueNext(b + "0", "x", "");
            dueNext(b + "1", DIGITS + "x", "");
            dueNext(b + "2", DIGITS + "x", "");
            dueNext(b + "3", "x", "");
            dueNext(b + "9", "x", "");
            dueNext(b + "10", "x", "");
            dueNext(b + "29", "x", "");
            dueNext(b + "7x", DIGITS, "");
            dueNext(b + "7x0", ":", "");
            dueNext(b + "7x1", DIGITS + ":", "");
            dueNext(b + "7x2", DIGITS + ":", "");
            dueNext(b + "7x3", ":", "");
            dueNext(b + "7x19", ":", "");
            dueNext(b + "7x20", ":", "");
            dueNext(b + "7x29", ":", "");
            dueNext(b + "7x7:", "123456789", "123456789");
            dueNext(b + "7x7:1", ",", "");
            dueNext(b + "7x7:9", ",", "");
            dueNext(b + "7x7:9,", DIGITS + "ts", "");
            for (String kind : new String[] {"t", "s"}) {
                dueNext(b + kind, DIGITS, DIGITS);
                dueNext(b + kind + "0", ",", "");
                dueNext(b + kind + "1", DIGITS + ",", DIGITS);
                dueNext(b + kind + "2", DIGITS + ",", DIGITS);
                dueNext(b + kind + "3", ",", "");
                dueNext(b + kind + "10", ",", "");
                dueNext(b + kind + "29", ",", "");
            }
        }
    }

    private static void faultOfEachConker() {
        for (int number = 0; number < 100; number++) {
            int behind = number < 30 ? NONE : 2;
            dueFault("t" + number, behind);
            dueFault("s" + number, behind);
            dueFault(number + "x0:1", number < 30 ? NONE : 1);
            dueFault("0x" + number + ":1", number < 30 ? NONE : 3);
            dueFault("t0" + number, 2);
        }
    }

    private static void faultOfEachSwing() {
        dueFault("0x1:0", 4);
        for (int swing = 1; swing <= 9; swing++) {
            dueFault("0x1:" + swing, NONE);
            dueFault("0x1:" + swing + "0", 5);
            dueFault("0x1:0" + swing, 4);
        }
    }

    private static void faultOfEmptyText() {
        dueFault("", 0);
        ConkerHeirs g = new ConkerHeirs();
        write(g, "t1");
        g.clearText();
        due("fault", 0, g.fault());
    }

    private static void faultOfFullText() {
        String nine = "0x1:1,".repeat(9);
        dueFault(nine + "0x10:9", NONE);
        dueFault(nine + "0x1:1,", 60);
        dueFault(nine + "10x10:", 60);
        dueFault(nine + "10x290", 59);
        dueFault(nine + "0x10:0", 59);
        dueFault(nine + "0x10,1", 58);
        dueFault("t1,".repeat(20), 60);
        dueFault("t1,".repeat(19) + "t10", NONE);
        dueFault("t1,".repeat(19) + "t1x", 59);
        dueFault("t1,".repeat(19) + "t1", NONE);
        dueFault(" ".repeat(60), 0);
    }

    private static void faultChangesNothing() {
        ConkerHeirs g = with(9, 9);
        write(g, "0x1:5");
        due("fault", NONE, g.fault());
        due("fault again", NONE, g.fault());
        due("no strike", 0, g.count(6));
        due("no action", 2, g.count(10));
        due("run", 1, g.run());
        due("fault", NONE, g.fault());
        due("the text goes on", 6, g.append(','));
        due("fault", 6, g.fault());
    }

    // ---- promise 14: run

    private static void runOfTextThatIsNoScript() {
        ConkerHeirs g = with(9, 9);
        due("empty text", -100, g.run());
        write(g, "?");
        due("fault 0", -100, g.run());
        write(g, "0x1:5,?");
        due("fault 6, and no order is carried out", -106, g.run());
        write(g, "0x1:5,".repeat(10));
        due("fault 60", -160, g.run());
        dueCounts(g, 2, 2, 0, 0, 0, 0, 0, 0, 0, 0, 2, 60);
    }

    private static void runOfNoOrderIsOneAction() {
        ConkerHeirs g = new ConkerHeirs();
        write(g, "t0");
        due("no conker", 0, g.run());
        due("recorded", 1, g.count(10));
        due("undo", 0, g.undo());
        due("undo", NONE, g.undo());
    }

    private static void runOfOneOrder() {
        ConkerHeirs g = with(9, 9);
        write(g, "1x0:9");
        due("one", 1, g.run());
        due("struck", 9, g.conker(0, 2));
        due("striker", 4, g.conker(1, 2));
        due("one state", 3, g.count(10));
    }

    /** Eighteen conkers, three of each player, all of them fallen: neighbours wore each other down. */
    private static ConkerHeirs withEighteenFallen() {
        ConkerHeirs g = with(9, 9, 9, 9, 9, 9, 9, 9, 9, 9, 9, 9, 9, 9, 9, 9, 9, 9);
        for (int conker = 0; conker < 18; conker += 2) {
            strikeTimes(g, 19, conker, conker + 1, 1);
            due("both fall", 12, g.strike(conker, conker + 1, 1));
        }
        due("fallen", 18, g.count(2));
        return g;
    }

    private static void runOfSeventeenOrders() {
        ConkerHeirs g = withEighteenFallen();
        write(g, "s0,s1,s2,s3,s4,s5,s6,s7,s8,s9,s10,s11,s12,s13,s14,s15,s16");
        due("length", 57, g.count(11));
        due("seventeen orders", 17, g.run());
        due("smashed", 17, g.count(3));
        due("one is left", 1, g.count(2));
        due("one action", 4, g.undo());
        due("all are back", 18, g.count(2));
    }

    private static void runOfTenStrikes() {
        ConkerHeirs g = with(9, 9, 9, 9, 9, 9, 9, 9, 9, 9, 9);
        write(g, "0x1:1,".repeat(9) + "0x10:9");
        due("ten orders", 10, g.run());
        due("strikes", 10, g.count(6));
        due("the last one", 9, g.conker(10, 2));
        due("wear", 11, g.conker(0, 3));
        due("history", 5, g.count(10));
        due("undone at once", 4, g.undo());
        due("strikes", 0, g.count(6));
    }

    private static void runOfTheHighestNumbers() {
        ConkerHeirs g = new ConkerHeirs();
        for (int conker = 0; conker < 30; conker++) {
            if (g.player(conker % 6, 0) == 0) {
                due("give", 2, g.give(conker % 6, 2));
            }
            due("thread", conker, g.thread(conker % 6, 9));
        }
        write(g, "29x28:9,20x19:8,9x10:7,0x29:6,s29");
        due("four strikes; 29 is not fallen", 4, g.run());
        dueConker(g, 28, 4, 9, 9, 1, 0, NONE, 0, NONE, 0);
        dueConker(g, 29, 5, 9, 10, 3, 0, NONE, 0, NONE, 0);
        dueConker(g, 20, 2, 9, 4, 2, 0, NONE, 0, NONE, 0);
        dueConker(g, 19, 1, 9, 8, 1, 0, NONE, 0, NONE, 0);
        dueConker(g, 9, 3, 9, 3, 2, 0, NONE, 0, NONE, 0);
        dueConker(g, 10, 4, 9, 7, 1, 0, NONE, 0, NONE, 0);
        dueConker(g, 0, 0, 9, 3, 1, 0, NONE, 0, NONE, 0);
    }

    private static void runStopsAtNoSuchConker() {
        ConkerHeirs g = with(9, 9);
        write(g, "0x1:1,0x2:1,0x1:1");
        due("one", 1, g.run());
        write(g, "2x0:1,0x1:1");
        due("none", 0, g.run());
        write(g, "0x1:1,0x1:1,t2,0x1:1");
        due("two", 2, g.run());
        write(g, "s29,0x1:1");
        due("none", 0, g.run());
        due("strikes", 3, g.count(6));
    }

    private static void runStopsAtSamePlayer() {
        ConkerHeirs g = with(9, 9, 9, 9, 9, 9, 9);
        write(g, "0x1:1,1x0:1,0x6:1,0x1:1");
        due("two", 2, g.run());
        due("strikes", 2, g.count(6));
    }

    private static void runStopsAtSmashed() {
        ConkerHeirs g = with(9, 1);
        write(g, "0x1:9,0x1:9,0x1:9,0x1:9");
        due("two", 2, g.run());
        due("victories", 1, g.conker(0, 4));
        write(g, "1x0:1");
        due("none", 0, g.run());
        write(g, "t1");
        due("none", 0, g.run());
        write(g, "s1");
        due("none", 0, g.run());
    }

    private static void runStopsWithoutString() {
        ConkerHeirs g = withFallen();
        due("thread", 2, g.thread(0, 1));
        due("thread", 3, g.thread(0, 1));
        write(g, "t0,s0");
        due("no string: neither", 0, g.run());
        due("still fallen", 1, g.conker(0, 6));
        due("give", 1, g.give(0, 1));
        due("the last string; it is not fallen then", 1, g.run());
        due("strings", 0, g.player(0, 0));
        due("in play", 0, g.conker(0, 6));
    }

    private static void runLeavesText() {
        ConkerHeirs g = with(9, 9);
        write(g, "0x1:1,1x0:2");
        due("run", 2, g.run());
        due("length", 11, g.count(11));
        due("run again", 2, g.run());
        due("strikes", 4, g.count(6));
        due("text goes on", 12, g.append(','));
        due("no script", -112, g.run());
    }

    // ---- promise 15: undo

    private static void undoOfEmptyHistory() {
        ConkerHeirs g = new ConkerHeirs();
        due("none", NONE, g.undo());
        due("give", 4, g.give(0, 1));
        due("the last one", 0, g.undo());
        due("none", NONE, g.undo());
        due("strings", 3, g.player(0, 0));
        due("none", NONE, g.undo());
    }

    private static void sixthStateDropsTheOldest() {
        for (int actions = 1; actions <= 12; actions++) {
            ConkerHeirs g = new ConkerHeirs();
            for (int i = 1; i <= actions; i++) {
                due("give", 3 + i, g.give(1, 1));
                due("states", Math.min(i, 5), g.count(10));
            }
            int states = Math.min(actions, 5);
            for (int left = states - 1; left >= 0; left--) {
                due("left", left, g.undo());
                due("strings", 3 + actions - states + left, g.player(1, 0));
            }
            due("no more", NONE, g.undo());
            due("strings", 3 + actions - states, g.player(1, 0));
        }
        // undo makes room for others
        ConkerHeirs h = new ConkerHeirs();
        for (int i = 1; i <= 6; i++) {
            due("give", 3 + i, h.give(1, 1));
        }
        due("undo", 4, h.undo());
        due("undo", 3, h.undo());
        due("give", 16, h.give(1, 9));
        due("give", 17, h.give(1, 1));
        due("give", 18, h.give(1, 1));
        due("five", 5, h.count(10));
        int[] strings = {17, 16, 7, 6, 5};
        for (int i = 0; i < 5; i++) {
            due("undo", 4 - i, h.undo());
            due("strings", strings[i], h.player(1, 0));
        }
    }

    private static void eachActionIsRecorded() {
        String[] names = {"thread", "give", "strike", "mend", "stamp", "boast", "doubt", "bout", "round", "run",
            "restore"};
        for (String name : names) {
            ConkerHeirs g = withFallen(9, 9);
            due("boast", NONE, g.boast(1, 0));
            write(g, "1x2:1");
            due("save", 3, g.save());
            // the history is full: it has to grow again for a new state to be seen
            due("undo", 4, g.undo());
            due("undo", 3, g.undo());
            due("undo", 2, g.undo());
            due("restore", 3, g.restore());
            act(g, name);
            due(name + " is recorded", 4, g.count(10));
            due("undo", 3, g.undo());
            dueConker(g, 0, 0, 9, 30, 20, 0, NONE, 1, NONE, 0);
            dueConker(g, 1, 1, 9, 70, 10, 0, 0, 0, NONE, 0);
            dueCounts(g, 4, 3, 1, 0, 0, 0, 10, 0, 1, 0, 3, 5);
        }
    }

    private static void act(ConkerHeirs g, String name) {
        switch (name) {
            case "thread": due(name, 4, g.thread(5, 1)); break;
            case "give": due(name, 3, g.give(0, 1)); break;
            case "strike": due(name, 0, g.strike(1, 2, 1)); break;
            case "mend": due(name, 1, g.mend(0)); break;
            case "stamp": due(name, 0, g.stamp(0)); break;
            case "boast": due(name, 0, g.boast(1, 0)); break;
            case "doubt": due(name, 5, g.doubt(5, 1)); break;
            case "bout": CHECKS.holds(name, g.bout(1, 2, 65535) > 0); break;
            case "round": due(name, 1, g.round(65535)); break;
            case "run": due(name, 1, g.run()); break;
            default: due(name, 3, g.restore());
        }
    }

    private static void whatIsNoAction() {
        ConkerHeirs g = with(9, 9);
        write(g, "0x1:1");
        due("fault", NONE, g.fault());
        due("save", 2, g.save());
        due("clear", 5, g.clearText());
        due("clear", 0, g.clearText());
        due("ifStruck", 0, g.ifStruck(0, 1, 5));
        due("leastSwing", NONE, g.leastSwing(0, 1));
        due("winner", g.winner(0, 1, 5), g.winner(1, 0, 5));
        due("share", 0.0f, g.share(0));
        due("states", 2, g.count(10));
    }

    private static void undoBringsAllBack() {
        ConkerHeirs g = with(9, 1, 1, 9);
        smash(g, 0, 1);
        strikeTimes(g, 15, 0, 3, 1);
        due("fall", 4, g.strike(0, 3, 1));
        due("stamp", 1, g.stamp(0));
        due("lost", 1, g.count(5));
        due("undo", 4, g.undo());
        dueConker(g, 0, 0, 9, 0, 20, 1, NONE, 1, NONE, 1);
        dueCounts(g, 4, 2, 1, 1, 1, 0, 18, 1, 0, 0, 4, 0);
        due("undo of the fall", 3, g.undo());
        dueConker(g, 0, 0, 9, 0, 19, 1, NONE, 0, NONE, 1);
        due("strikes", 17, g.count(6));
        ConkerHeirs h = with(9, 1);
        smash(h, 0, 1);
        due("undo of the smash", 3, h.undo());
        dueConker(h, 0, 0, 9, 0, 2, 0, NONE, 0, NONE, 0);
        dueConker(h, 1, 1, 1, 81, 1, 0, NONE, 0, NONE, 0);
        due("no heir", 0, h.count(7));
        due("no line", 0, h.line(0));
    }

    private static void undoBringsShameBack() {
        ConkerHeirs g = with(9);
        due("boast", NONE, g.boast(0, 1));
        due("doubt", 0, g.doubt(1, 0));
        due("save", 1, g.save());
        due("undo", 2, g.undo());
        duePlayer(g, 0, 2, 0);
        due("the boast is back", 1, g.conker(0, 5));
        due("restore", 1, g.restore());
        duePlayer(g, 0, 2, 1);
        due("the boast is gone", NONE, g.conker(0, 5));
    }

    /** The number of an undone conker goes to another player; the snapshot knows the first one. */
    private static void undoBringsOwnersBack() {
        ConkerHeirs g = with(9);
        due("thread", 1, g.thread(3, 7));
        due("save", 2, g.save());
        due("undo", 1, g.undo());
        due("thread", 1, g.thread(4, 2));
        due("restore", 2, g.restore());
        dueConker(g, 1, 3, 7, 0, 0, 0, NONE, 0, NONE, 0);
        duePlayer(g, 3, 2, 0, 1, 0, 0, 0, 1);
        duePlayer(g, 4, 3, 0, 0, 0, 0, 0, NONE);
        due("undo", 2, g.undo());
        dueConker(g, 1, 4, 2, 0, 0, 0, NONE, 0, NONE, 0);
    }

    private static void undoLeavesTextAndSnapshot() {
        ConkerHeirs g = with(9);
        due("give", 12, g.give(5, 9));
        write(g, "t0");
        due("save", 1, g.save());
        due("undo", 1, g.undo());
        due("undo", 0, g.undo());
        due("no conkers", 0, g.count(0));
        due("text", 2, g.count(11));
        due("fault", NONE, g.fault());
        due("the snapshot was taken after it", 1, g.restore());
        due("strings", 12, g.player(5, 0));
    }

    private static void undoIsNotUndone() {
        ConkerHeirs g = new ConkerHeirs();
        due("give", 4, g.give(0, 1));
        due("give", 5, g.give(0, 1));
        due("undo", 1, g.undo());
        due("undo goes on back", 0, g.undo());
        due("strings", 3, g.player(0, 0));
    }

    // ---- promises 16 and 17: save, restore

    private static void saveOfEmptyGame() {
        ConkerHeirs g = new ConkerHeirs();
        due("none in play", 0, g.save());
        due("thread", 0, g.thread(0, 9));
        due("restore", 0, g.restore());
        dueCounts(g, 0, 0, 0, 0, 0, 0, 0, 0, 0, 0, 2, 0);
        due("strings", 3, g.player(0, 0));
        due("no conker", NO_SUCH, g.conker(0, 0));
        due("undo", 1, g.undo());
        due("the conker is back", 0, g.conker(0, 6));
    }

    private static void saveCountsThoseInPlay() {
        ConkerHeirs g = withFallen(1, 9);
        smash(g, 3, 2);
        due("one fallen, one smashed, two in play", 2, g.save());
        due("stamp", 0, g.stamp(0));
        due("restore", 2, g.restore());
        due("fallen again", 1, g.conker(0, 6));
    }

    private static void saveReplacesTheEarlierOne() {
        ConkerHeirs g = new ConkerHeirs();
        due("save", 0, g.save());
        due("thread", 0, g.thread(0, 9));
        due("save", 1, g.save());
        due("thread", 1, g.thread(0, 9));
        due("the later one", 1, g.restore());
        due("undo", 2, g.undo());
        due("undo", 1, g.undo());
        due("undo", 0, g.undo());
        due("the later one still", 1, g.restore());
    }

    private static void restoreOfSameStateIsRecorded() {
        ConkerHeirs g = with(9);
        due("save", 1, g.save());
        due("restore", 1, g.restore());
        due("restore", 1, g.restore());
        due("recorded, though nothing changes", 3, g.count(10));
        due("undo", 2, g.undo());
        due("conkers", 1, g.count(0));
    }

    private static void snapshotRemains() {
        ConkerHeirs g = with(9, 1, 1);
        due("save", 3, g.save());
        for (int i = 0; i < 4; i++) {
            smash(g, 0, 1 + i % 2);
            due("restore", 3, g.restore());
            dueConker(g, 0, 0, 9, 0, 0, 0, NONE, 0, NONE, 0);
        }
        write(g, "t0,");
        due("the text is no part of it", 3, g.restore());
        due("length", 3, g.count(11));
        due("nor is the history", 5, g.count(10));
    }
}
