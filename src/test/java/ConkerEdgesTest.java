/** The edges that the document names for conkers and strikes (promises 1 to 6), a part for each. */
public final class ConkerEdgesTest extends Parts {
    public static void main(String[] args) {
        emptyObject();
        objectsAreApart();
        lastOf512Calls();
        threadLeastAndMost();
        threadOnLastString();
        threadThirtiethConker();
        threadAfterUndoBeginsAnew();
        giveLeastAndMost();
        giveUpToTwenty();
        swingLeastAndMost();
        swingAboveSixWearsByTwo();
        growthIsRoundedDown();
        growthIsRoundedDownForEachStrike();
        crackOf99IsNotSmashed();
        struckCrackOf100();
        strikerCrackOf100();
        crackAbove100();
        onlyStrikerIsSmashed();
        allVictoriesAreHandedOn();
        bothAreSmashed();
        bothAreSmashedWithWear20();
        wearOf19DoesNotFall();
        wearOf19AndTwoIs20();
        struckFalls();
        bothFall();
        strikerIsSmashedAndStruckFalls();
        strikerFallsAndStruckIsSmashed();
        smashedWithWear20DoesNotFall();
        mendOnLastString();
        mendedFallsAgain();
        mendKeepsAllButWear();
        stampWithoutVictories();
        stampLosesVictories();
        stampLeavesLine();
        CHECKS.close("ConkerEdgesTest");
    }

    // ---- promise 1: a new object

    private static void emptyObject() {
        ConkerHeirs g = new ConkerHeirs();
        for (int player = 0; player < 6; player++) {
            duePlayer(g, player, 3, 0, 0, 0, 0, 0, NONE);
            due("share", 0.0f, g.share(player));
        }
        dueCounts(g, 0, 0, 0, 0, 0, 0, 0, 0, 0, 0, 0, 0);
        due("no conker", NO_SUCH, g.conker(0, 0));
        due("no line", NO_SUCH, g.line(0));
        due("none ranked", NONE, g.ranked(0));
        due("no two", NO_SUCH, g.strike(0, 1, 1));
        due("none to mend", NO_SUCH, g.mend(0));
        due("none to stamp on", NO_SUCH, g.stamp(0));
        due("none to boast of", NO_SUCH, g.boast(0, 0));
        due("none to doubt", NO_SUCH, g.doubt(0, 0));
        due("no bout", NO_SUCH, g.bout(0, 1, 0));
        due("the empty text is no script", 0, g.fault());
        due("nothing to run", -100, g.run());
        due("empty history", NONE, g.undo());
        due("no snapshot", NOT_POSSIBLE, g.restore());
    }

    private static void objectsAreApart() {
        ConkerHeirs g = with(9, 1);
        smash(g, 0, 1);
        write(g, "0x1:1");
        due("save", 1, g.save());
        emptyObject();
        ConkerHeirs h = with(5);
        due("hardness", 5, h.conker(0, 1));
        due("text", 0, h.count(11));
        due("snapshot", NOT_POSSIBLE, h.restore());
        dueConker(g, 0, 0, 9, 0, 4, 1, NONE, 0, NONE, 1);
    }

    private static void lastOf512Calls() {
        ConkerHeirs g = new ConkerHeirs();
        for (int i = 0; i < 255; i++) {
            due("give", 4, g.give(5, 1));
            due("undo", 0, g.undo());
        }
        due("call 511", 12, g.give(5, 9));
        due("call 512", 12, g.player(5, 0));
    }

    // ---- promise 2: thread

    private static void threadLeastAndMost() {
        ConkerHeirs g = new ConkerHeirs();
        due("player 0, hardness 1", 0, g.thread(0, 1));
        due("player 5, hardness 9", 1, g.thread(5, 9));
        dueConker(g, 0, 0, 1, 0, 0, 0, NONE, 0, NONE, 0);
        dueConker(g, 1, 5, 9, 0, 0, 0, NONE, 0, NONE, 0);
    }

    private static void threadOnLastString() {
        ConkerHeirs g = new ConkerHeirs();
        for (int conker = 0; conker < 3; conker++) {
            due("thread", conker, g.thread(4, 5));
            due("strings", 2 - conker, g.player(4, 0));
        }
        due("none left", NOT_POSSIBLE, g.thread(4, 5));
        due("one more", 1, g.give(4, 1));
        due("thread", 3, g.thread(4, 5));
        due("none left", NOT_POSSIBLE, g.thread(4, 5));
    }

    private static void threadThirtiethConker() {
        ConkerHeirs g = with(1, 1, 1, 1, 1, 1, 1, 1, 1, 1, 1, 1, 1, 1, 1, 1, 1, 1);
        due("give", 9, g.give(0, 9));
        due("give", 9, g.give(1, 9));
        for (int conker = 18; conker < 27; conker++) {
            due("thread", conker, g.thread(0, 1));
        }
        for (int conker = 27; conker < 29; conker++) {
            due("thread", conker, g.thread(1, 1));
        }
        due("no conker 29 yet", NO_SUCH, g.conker(29, 0));
        due("the last one", 29, g.thread(1, 9));
        dueConker(g, 29, 1, 9, 0, 0, 0, NONE, 0, NONE, 0);
        due("no room", TOO_MANY, g.thread(1, 9));
        due("strings stay", 6, g.player(1, 0));
        due("conkers", 30, g.count(0));
        strikes(g, 29, 0, 9, 0);
        strikes(g, 29, 0, 9, 2);
        due("a smashed one leaves no room", TOO_MANY, g.thread(1, 9));
        due("undo", 4, g.undo());
        due("undo", 3, g.undo());
        due("undo", 2, g.undo());
        due("conkers", 29, g.count(0));
        due("room again", 29, g.thread(1, 2));
    }

    private static void threadAfterUndoBeginsAnew() {
        ConkerHeirs g = with(9, 9);
        due("the third one", 2, g.thread(2, 1));
        due("boast", NONE, g.boast(2, 9));
        due("strike", 0, g.strike(0, 2, 9));
        due("smash", 2, g.strike(0, 2, 9));
        for (int left = 4; left > 0; left--) {
            due("undo", left, g.undo());
        }
        due("the same number", 2, g.thread(3, 4));
        dueConker(g, 2, 3, 4, 0, 0, 0, NONE, 0, NONE, 0);
        due("no heir has it", 0, g.conker(0, 8));
    }

    // ---- promise 3: give

    private static void giveLeastAndMost() {
        ConkerHeirs g = new ConkerHeirs();
        due("player 0, one", 4, g.give(0, 1));
        due("player 5, nine", 12, g.give(5, 9));
        due("player 0", 4, g.player(0, 0));
        due("player 5", 12, g.player(5, 0));
    }

    private static void giveUpToTwenty() {
        ConkerHeirs g = new ConkerHeirs();
        due("12", 12, g.give(3, 9));
        due("21", TOO_MANY, g.give(3, 9));
        due("20", 20, g.give(3, 8));
        due("21", TOO_MANY, g.give(3, 1));
        due("a string is used", 0, g.thread(3, 3));
        due("20 and one", TOO_MANY, g.give(3, 2));
        due("20 again", 20, g.give(3, 1));
    }

    // ---- promise 4: strike

    private static void swingLeastAndMost() {
        ConkerHeirs g = with(9, 9);
        strikes(g, 0, 1, 1, 0);
        due("crack by 1", 1, g.conker(1, 2));
        strikes(g, 0, 1, 9, 0);
        due("crack by 9", 10, g.conker(1, 2));
        due("crack of the striker by 4", 4, g.conker(0, 2));
    }

    private static void swingAboveSixWearsByTwo() {
        for (int swing = 1; swing <= 9; swing++) {
            ConkerHeirs g = with(9, 9);
            strikes(g, 0, 1, swing, 0);
            due("wear of the striker, swing " + swing, swing < 7 ? 1 : 2, g.conker(0, 3));
            due("wear of the struck one, swing " + swing, 1, g.conker(1, 3));
        }
    }

    private static void growthIsRoundedDown() {
        ConkerHeirs g = with(1, 9);
        strikes(g, 0, 1, 8, 0);
        due("8 / 9", 0, g.conker(1, 2));
        due("72 / 2", 36, g.conker(0, 2));
        ConkerHeirs h = with(1, 9);
        strikes(h, 0, 1, 9, 0);
        due("9 / 9", 1, h.conker(1, 2));
        due("81 / 2", 40, h.conker(0, 2));
        ConkerHeirs k = with(9, 1);
        strikes(k, 0, 1, 9, 0);
        due("9 / 18", 0, k.conker(0, 2));
        due("81 / 1", 81, k.conker(1, 2));
        // all pairs of hardness and all swings
        for (int code = 0; code < 729; code++) {
            int a = 1 + code % 9;
            int b = 1 + code / 9 % 9;
            int swing = 1 + code / 81;
            ConkerHeirs m = with(a, b);
            strikes(m, 0, 1, swing, 0);
            due("struck one, " + code, swing * a / b, m.conker(1, 2));
            due("striker, " + code, swing * b / (2 * a), m.conker(0, 2));
        }
    }

    private static void growthIsRoundedDownForEachStrike() {
        ConkerHeirs g = with(4, 5);
        // 4 / 5 and 5 / 8 are nothing, as often as it strikes
        strikeTimes(g, 9, 0, 1, 1);
        due("struck one", 0, g.conker(1, 2));
        due("striker", 0, g.conker(0, 2));
    }

    /** Conker 1 has the crack 99: 81 and 18 by the conker 0; conker 2 is soft too. */
    private static ConkerHeirs withCrack99() {
        ConkerHeirs g = with(9, 1, 1);
        strikes(g, 0, 1, 9, 0);
        strikes(g, 0, 1, 2, 0);
        return g;
    }

    private static void crackOf99IsNotSmashed() {
        ConkerHeirs g = withCrack99();
        dueConker(g, 1, 1, 1, 99, 2, 0, NONE, 0, NONE, 0);
        due("smashed ones", 0, g.count(3));
    }

    private static void struckCrackOf100() {
        ConkerHeirs g = withCrack99();
        strikes(g, 2, 1, 1, 2);
        dueConker(g, 1, 1, 1, 100, 3, 0, NONE, 2, 2, 0);
        dueConker(g, 2, 2, 1, 0, 1, 1, NONE, 0, NONE, 1);
    }

    private static void strikerCrackOf100() {
        ConkerHeirs g = withCrack99();
        // the striker's crack grows by 1 / 2 and by 2 / 2
        strikes(g, 1, 2, 1, 0);
        due("still 99", 99, g.conker(1, 2));
        strikes(g, 1, 2, 2, 1);
        dueConker(g, 1, 1, 1, 100, 4, 0, NONE, 2, 2, 0);
        dueConker(g, 2, 2, 1, 3, 2, 1, NONE, 0, NONE, 1);
    }

    private static void crackAbove100() {
        ConkerHeirs g = with(9, 1);
        smash(g, 0, 1);
        due("162 becomes 100", 100, g.conker(1, 2));
        // a striker: 40 three times
        ConkerHeirs h = with(1, 9);
        strikes(h, 0, 1, 9, 0);
        strikes(h, 0, 1, 9, 0);
        strikes(h, 0, 1, 9, 1);
        due("120 becomes 100", 100, h.conker(0, 2));
    }

    private static void onlyStrikerIsSmashed() {
        ConkerHeirs g = with(1, 9);
        due("boast", NONE, g.boast(0, 5));
        strikes(g, 0, 1, 9, 0);
        strikes(g, 0, 1, 9, 0);
        strikes(g, 0, 1, 9, 1);
        dueConker(g, 0, 0, 1, 100, 6, 0, NONE, 2, 1, 0);
        dueConker(g, 1, 1, 9, 3, 3, 1, NONE, 0, NONE, 1);
        dueCounts(g, 2, 1, 0, 1, 1, 0, 3, 1, 0, 0, 5, 0);
    }

    private static void allVictoriesAreHandedOn() {
        ConkerHeirs g = with(9, 1, 1, 1, 9);
        // 4 smashes 3; 1 smashes 2, and 4 smashes 1, whose victories it gets with one more
        smash(g, 4, 3);
        strikes(g, 0, 2, 9, 0);
        strikes(g, 0, 2, 2, 0);
        strikes(g, 1, 2, 1, 2);
        due("victories of 1", 1, g.conker(1, 4));
        strikes(g, 4, 1, 9, 0);
        strikes(g, 4, 1, 9, 2);
        due("1 and 1 and 1", 3, g.conker(4, 4));
        due("none any more", 0, g.conker(1, 4));
        due("all", 3, g.count(4));
        due("none are lost", 0, g.count(5));
        due("handed on to the striker's striker", 2, g.conker(4, 8));
    }

    private static void bothAreSmashed() {
        ConkerHeirs g = with(9, 1, 1, 1, 1);
        for (int conker = 1; conker <= 4; conker++) {
            strikes(g, 0, conker, 9, 0);
            strikes(g, 0, conker, 2, 0);
        }
        strikes(g, 1, 3, 1, 2);
        strikes(g, 2, 4, 1, 2);
        due("boast", NONE, g.boast(1, 3));
        due("boast", NONE, g.boast(2, 4));
        strikes(g, 1, 2, 2, 3);
        dueConker(g, 1, 1, 1, 100, 4, 0, NONE, 2, NONE, 1);
        dueConker(g, 2, 2, 1, 100, 4, 0, NONE, 2, NONE, 1);
        dueCounts(g, 5, 1, 0, 4, 0, 2, 11, 2, 0, 0, 5, 0);
        due("their lines stay", 1, g.line(1));
        due("neither is in a line", 0, g.line(0));
    }

    private static void bothAreSmashedWithWear20() {
        ConkerHeirs g = with(1, 1, 9);
        strikes(g, 2, 0, 9, 0);
        strikes(g, 2, 1, 9, 0);
        strikes(g, 2, 0, 1, 0);
        strikes(g, 2, 1, 1, 0);
        // cracks 90 and 90, wears 2 and 2; nine strikes more at 1, eight at 0
        strikeTimes(g, 9, 0, 1, 1);
        strikeTimes(g, 8, 1, 0, 1);
        due("crack", 98, g.conker(0, 2));
        due("crack", 99, g.conker(1, 2));
        due("wear", 19, g.conker(0, 3));
        due("wear", 19, g.conker(1, 3));
        strikes(g, 0, 1, 4, 3);
        dueConker(g, 0, 0, 1, 100, 20, 0, NONE, 2, NONE, 0);
        dueConker(g, 1, 1, 1, 100, 20, 0, NONE, 2, NONE, 0);
        due("none fell", 0, g.count(2));
    }

    private static void wearOf19DoesNotFall() {
        ConkerHeirs g = with(9, 9);
        strikeTimes(g, 19, 0, 1, 1);
        due("striker", 19, g.conker(0, 3));
        due("struck one", 19, g.conker(1, 3));
        due("in play", 2, g.count(1));
    }

    private static void wearOf19AndTwoIs20() {
        ConkerHeirs g = with(9, 9, 9);
        strikeTimes(g, 10, 0, 1, 1);
        strikeTimes(g, 9, 0, 2, 1);
        strikes(g, 0, 1, 7, 4);
        dueConker(g, 0, 0, 9, 3, 20, 0, NONE, 1, NONE, 0);
        ConkerHeirs h = with(9, 9, 9);
        strikeTimes(h, 9, 0, 1, 1);
        strikeTimes(h, 9, 0, 2, 1);
        strikes(h, 0, 1, 7, 4);
        due("18 and two is 20", 20, h.conker(0, 3));
    }

    private static void struckFalls() {
        ConkerHeirs g = with(9, 9, 9);
        strikeTimes(g, 10, 1, 0, 1);
        strikeTimes(g, 9, 2, 0, 1);
        strikes(g, 1, 0, 9, 8);
        dueConker(g, 0, 0, 9, 28, 20, 0, NONE, 1, NONE, 0);
        due("no string comes back", 2, g.player(0, 0));
    }

    private static void bothFall() {
        ConkerHeirs g = with(9, 9);
        strikeTimes(g, 19, 0, 1, 1);
        strikes(g, 0, 1, 9, 12);
        due("striker", 20, g.conker(0, 3));
        due("struck one", 20, g.conker(1, 3));
        dueCounts(g, 2, 0, 2, 0, 0, 0, 20, 0, 0, 0, 5, 0);
    }

    private static void strikerIsSmashedAndStruckFalls() {
        ConkerHeirs g = with(1, 9, 9, 9);
        strikeTimes(g, 19, 1, 2, 1);
        strikes(g, 0, 3, 9, 0);
        strikes(g, 0, 3, 9, 0);
        strikes(g, 0, 1, 9, 9);
        dueConker(g, 0, 0, 1, 100, 6, 0, NONE, 2, 1, 0);
        dueConker(g, 1, 1, 9, 1, 20, 1, NONE, 1, NONE, 1);
    }

    private static void strikerFallsAndStruckIsSmashed() {
        ConkerHeirs g = with(9, 1, 9);
        strikes(g, 0, 1, 9, 0);
        strikeTimes(g, 16, 0, 2, 1);
        strikes(g, 0, 1, 9, 6);
        dueConker(g, 0, 0, 9, 0, 20, 1, NONE, 1, NONE, 1);
        dueConker(g, 1, 1, 1, 100, 2, 0, NONE, 2, 0, 0);
    }

    private static void smashedWithWear20DoesNotFall() {
        // the striker: 4 eighteen times is 72, and 40; the wear 18 and 2
        ConkerHeirs g = with(1, 9, 9);
        strikeTimes(g, 9, 0, 1, 1);
        strikeTimes(g, 9, 0, 2, 1);
        due("crack", 72, g.conker(0, 2));
        strikes(g, 0, 1, 9, 1);
        dueConker(g, 0, 0, 1, 100, 20, 0, NONE, 2, 1, 0);
        // the struck one: 5 nineteen times is 95, and 5
        ConkerHeirs h = with(5, 1, 5);
        strikeTimes(h, 10, 0, 1, 1);
        strikeTimes(h, 9, 2, 1, 1);
        due("crack", 95, h.conker(1, 2));
        strikes(h, 0, 1, 1, 2);
        dueConker(h, 1, 1, 1, 100, 20, 0, NONE, 2, 0, 0);
        due("none fell", 0, h.count(2));
    }

    // ---- promise 5: mend

    private static void mendOnLastString() {
        ConkerHeirs g = withFallen();
        due("thread", 2, g.thread(0, 5));
        due("one string", 1, g.player(0, 0));
        due("none left", 0, g.mend(0));
        dueCounts(g, 3, 3, 0, 0, 0, 0, 10, 0, 0, 0, 5, 0);
        ConkerHeirs h = withFallen();
        due("give", 11, h.give(0, 9));
        due("give", 20, h.give(0, 9));
        due("of twenty", 19, h.mend(0));
    }

    private static void mendedFallsAgain() {
        ConkerHeirs g = withFallen(9);
        due("mend", 1, g.mend(0));
        due("wear", 0, g.conker(0, 3));
        strikeTimes(g, 9, 0, 2, 7);
        due("wear", 18, g.conker(0, 3));
        strikes(g, 0, 2, 7, 4);
        due("mend", 0, g.mend(0));
        due("crack goes on: 3 twenty times", 60, g.conker(0, 2));
    }

    private static void mendKeepsAllButWear() {
        ConkerHeirs g = with(9, 1, 9);
        smash(g, 0, 1);
        strikeTimes(g, 15, 0, 2, 2);
        strikes(g, 0, 2, 2, 4);
        due("boast", NONE, g.boast(0, 7));
        dueConker(g, 0, 0, 9, 16, 20, 1, 7, 1, NONE, 1);
        due("mend", 1, g.mend(0));
        dueConker(g, 0, 0, 9, 16, 0, 1, 7, 0, NONE, 1);
    }

    // ---- promise 6: stamp

    private static void stampWithoutVictories() {
        ConkerHeirs g = withFallen();
        due("boast", NONE, g.boast(0, 7));
        due("none are lost", 0, g.stamp(0));
        dueConker(g, 0, 0, 9, 30, 20, 0, NONE, 2, NONE, 0);
        dueCounts(g, 2, 1, 0, 1, 0, 0, 10, 0, 0, 0, 5, 0);
    }

    private static void stampLosesVictories() {
        ConkerHeirs g = with(9, 1, 1, 9);
        smash(g, 0, 1);
        smash(g, 0, 2);
        strikeTimes(g, 11, 0, 3, 1);
        strikes(g, 0, 3, 1, 4);
        due("two are lost", 2, g.stamp(0));
        dueCounts(g, 4, 1, 0, 3, 0, 2, 16, 2, 0, 0, 5, 0);
        due("nobody gets them", 0, g.conker(3, 4));
    }

    private static void stampLeavesLine() {
        ConkerHeirs g = with(9, 1, 9);
        smash(g, 0, 1);
        strikeTimes(g, 15, 0, 2, 1);
        strikes(g, 0, 2, 1, 4);
        due("one is lost", 1, g.stamp(0));
        due("its line", 1, g.line(0));
        due("it smashed one", 1, g.conker(0, 8));
        due("nobody smashed it so", NONE, g.conker(0, 7));
    }
}
