import java.util.Random;

/** Random runs of 512 calls, each answer compared with the model's, and at times all that can be asked. */
public final class ModelTest {
    private static final int RUNS = 1500;
    private static final int CALLS = 512;
    private static final int[] ODD = {Integer.MIN_VALUE, -100, -6, -5, -2, -1, 10, 30, 31, 100, 127, 65536, 1 << 24,
        Integer.MAX_VALUE};

    private final Checks checks;
    private final Random random;
    private final boolean wild;
    private final ConkerHeirs game = new ConkerHeirs();
    private final Model model = new Model();

    private ModelTest(long seed, Checks checks) {
        this.checks = checks;
        random = new Random(seed);
        // a wild run has many wrong arguments; the others come further
        wild = seed % 5 == 0;
    }

    public static void main(String[] args) {
        Checks checks = new Checks();
        for (int seed = 0; seed < RUNS && !checks.hasWrong(); seed++) {
            new ModelTest(seed, checks).play(seed);
        }
        checks.close("ModelTest");
    }

    private void play(int seed) {
        for (int call = 0; call < CALLS; call++) {
            String where = "seed " + seed + ", call " + call + ": ";
            callOnce(where);
            if (call % 32 == 31) {
                askAll(where);
            }
        }
        askAll("seed " + seed + ", at the end: ");
    }

    private int number(int least, int most) {
        if (random.nextInt(wild ? 6 : 60) == 0) {
            int odd = random.nextInt(ODD.length + 2);
            return odd < ODD.length ? ODD[odd] : odd == ODD.length ? least - 1 : most + 1;
        }
        return least + random.nextInt(most - least + 1);
    }

    private int aPlayer() {
        return number(0, 5);
    }

    private int aConker() {
        return number(0, Math.max(0, model.count(0) - 1));
    }

    /** A conker that is such (0 to 2), if there is one: so that runs do not stop at errors. */
    private int aConkerBeing(int how) {
        int conkers = model.count(0);
        int start = conkers == 0 ? 0 : random.nextInt(conkers);
        for (int i = 0; i < conkers; i++) {
            int conker = (start + i) % conkers;
            if (model.conker(conker, 6) == how) {
                return random.nextInt(12) == 0 ? aConker() : conker;
            }
        }
        return aConker();
    }

    private void callOnce(String where) {
        int kind = random.nextInt(100);
        if (kind < 12) {
            int a = aPlayer();
            int b = number(1, 9);
            due(where, "thread", model.thread(a, b), game.thread(a, b), a, b);
        } else if (kind < 20) {
            int a = aPlayer();
            int b = number(1, 9);
            due(where, "give", model.give(a, b), game.give(a, b), a, b);
        } else if (kind < 50) {
            strikeOrTell(where);
        } else if (kind < 58) {
            int a = aConkerBeing(1);
            due(where, "mend", model.mend(a), game.mend(a), a);
        } else if (kind < 61) {
            int a = aConkerBeing(1);
            due(where, "stamp", model.stamp(a), game.stamp(a), a);
        } else if (kind < 72) {
            boastOrDoubt(where);
        } else if (kind < 78) {
            boutOrRound(where);
        } else if (kind < 92) {
            writeOrRun(where);
        } else {
            goBack(where);
        }
    }

    private void strikeOrTell(String where) {
        int a = aConkerBeing(0);
        int b = aConkerBeing(0);
        int c = number(1, 9);
        due(where, "ifStruck", model.ifStruck(a, b, c), game.ifStruck(a, b, c), a, b, c);
        due(where, "leastSwing", model.leastSwing(a, b), game.leastSwing(a, b), a, b);
        due(where, "strike", model.strike(a, b, c), game.strike(a, b, c), a, b, c);
    }

    private void boastOrDoubt(String where) {
        if (random.nextBoolean()) {
            int a = aConker();
            int b = random.nextBoolean() ? number(0, 4) : number(0, 99);
            due(where, "boast", model.boast(a, b), game.boast(a, b), a, b);
        } else {
            int a = aPlayer();
            int b = aConker();
            due(where, "doubt", model.doubt(a, b), game.doubt(a, b), a, b);
        }
    }

    private void boutOrRound(String where) {
        int x = number(0, 65535);
        if (random.nextInt(3) == 0) {
            due(where, "round", model.round(x), game.round(x), x);
        } else {
            int a = aConkerBeing(0);
            int b = aConkerBeing(0);
            due(where, "winner", model.winner(a, b, x), game.winner(a, b, x), a, b, x);
            due(where, "bout", model.bout(a, b, x), game.bout(a, b, x), a, b, x);
        }
    }

    private void writeOrRun(String where) {
        switch (random.nextInt(8)) {
            case 0:
                due(where, "clearText", model.clearText(), game.clearText());
                break;
            case 1:
                due(where, "run", model.run(), game.run());
                break;
            case 2:
                write(where, "" + (char) (32 + random.nextInt(95)));
                int a = number(32, 126);
                due(where, "append", model.append(a), game.append(a), a);
                break;
            case 3:
                write(where, "" + "0123456789xts:,".charAt(random.nextInt(15)));
                break;
            default:
                write(where, (model.count(11) > 0 && random.nextInt(8) > 0 ? "," : "") + anOrder());
                if (random.nextBoolean()) {
                    due(where, "run", model.run(), game.run());
                }
        }
        due(where, "fault", model.fault(), game.fault());
    }

    private String anOrder() {
        int inPlay = aConkerBeing(0);
        switch (random.nextInt(6)) {
            case 0: return "t" + aConkerBeing(1);
            case 1: return "s" + aConkerBeing(1);
            default: return inPlay + "x" + aConkerBeing(0) + ":" + (1 + random.nextInt(9));
        }
    }

    private void write(String where, String text) {
        for (int i = 0; i < text.length(); i++) {
            int a = text.charAt(i);
            due(where, "append", model.append(a), game.append(a), a);
        }
    }

    private void goBack(String where) {
        int kind = random.nextInt(8);
        if (kind < 4) {
            due(where, "undo", model.undo(), game.undo());
        } else if (kind < 7) {
            due(where, "save", model.save(), game.save());
        } else if (random.nextInt(4) == 0) {
            due(where, "restore", model.restore(), game.restore());
        }
    }

    private void askAll(String where) {
        for (int a = -2; a <= 32; a++) {
            for (int what = -1; what <= 9; what++) {
                due(where, "conker", model.conker(a, what), game.conker(a, what), a, what);
                due(where, "player", model.player(a, what), game.player(a, what), a, what);
            }
            due(where, "ranked", model.ranked(a), game.ranked(a), a);
            due(where, "line", model.line(a), game.line(a), a);
            due(where, "count", model.count(a), game.count(a), a);
            checks.due(where + "share " + a, model.share(a), game.share(a));
        }
        for (int odd : ODD) {
            due(where, "conker", model.conker(odd, odd), game.conker(odd, odd), odd, odd);
            due(where, "player", model.player(odd, odd), game.player(odd, odd), odd, odd);
            due(where, "ranked", model.ranked(odd), game.ranked(odd), odd);
            due(where, "line", model.line(odd), game.line(odd), odd);
            due(where, "count", model.count(odd), game.count(odd), odd);
            checks.due(where + "share " + odd, model.share(odd), game.share(odd));
        }
    }

    private void due(String where, String method, int want, int got, int... arguments) {
        StringBuilder call = new StringBuilder(where).append(method);
        for (int argument : arguments) {
            call.append(' ').append(argument);
        }
        checks.due(call.toString(), want, got);
    }
}
