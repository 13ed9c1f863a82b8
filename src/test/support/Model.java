import java.util.ArrayDeque;
import java.util.ArrayList;
import java.util.Comparator;
import java.util.Deque;
import java.util.List;
import java.util.regex.Matcher;
import java.util.regex.Pattern;
import java.util.stream.Collectors;
import java.util.stream.IntStream;

/** The document once more, written as plainly as the Java library lets it be, without a thought of cost. */
public final class Model {
    private static final int NO_SUCH = -1;
    private static final int BAD_VALUE = -2;
    private static final int TOO_MANY = -3;
    private static final int NOT_POSSIBLE = -4;
    private static final int NONE = -5;

    private static final String NUMBER = "(?:[12][0-9]|[0-9])";
    private static final String ORDER = "(?:" + NUMBER + "x" + NUMBER + ":[1-9]|t" + NUMBER + "|s" + NUMBER + ")";
    private static final Pattern SCRIPT = Pattern.compile(ORDER + "(?:," + ORDER + ")*");

    private enum How { IN_PLAY, FALLEN, SMASHED }

    private static final class Conker {
        int number;
        int player;
        int hardness;
        int crack;
        int wear;
        int victories;
        Integer boast;
        How how = How.IN_PLAY;
        Integer heir;

        Conker copy() {
            Conker c = new Conker();
            c.number = number;
            c.player = player;
            c.hardness = hardness;
            c.crack = crack;
            c.wear = wear;
            c.victories = victories;
            c.boast = boast;
            c.how = how;
            c.heir = heir;
            return c;
        }
    }

    private static final class World {
        final int[] strings = {3, 3, 3, 3, 3, 3};
        final int[] shame = new int[6];
        final List<Conker> conkers = new ArrayList<>();
        int lost;
        int strikes;

        World copy() {
            World w = new World();
            System.arraycopy(strings, 0, w.strings, 0, 6);
            System.arraycopy(shame, 0, w.shame, 0, 6);
            conkers.forEach(c -> w.conkers.add(c.copy()));
            w.lost = lost;
            w.strikes = strikes;
            return w;
        }

        boolean has(int conker) {
            return conker >= 0 && conker < conkers.size();
        }

        long number(How how) {
            return conkers.stream().filter(c -> c.how == how).count();
        }
    }

    private World world = new World();
    private World saved;
    private final Deque<World> past = new ArrayDeque<>();
    private String text = "";

    private void record() {
        past.addLast(world.copy());
        if (past.size() > 5) {
            past.removeFirst();
        }
    }

    private int recordIfGood(World before, int answer, boolean good) {
        if (good) {
            past.addLast(before);
            if (past.size() > 5) {
                past.removeFirst();
            }
        }
        return answer;
    }

    public int thread(int player, int hardness) {
        if (player < 0 || player > 5) return NO_SUCH;
        if (hardness < 1 || hardness > 9) return BAD_VALUE;
        if (world.strings[player] == 0) return NOT_POSSIBLE;
        if (world.conkers.size() == 30) return TOO_MANY;
        record();
        Conker c = new Conker();
        c.number = world.conkers.size();
        c.player = player;
        c.hardness = hardness;
        world.conkers.add(c);
        world.strings[player]--;
        return c.number;
    }

    public int give(int player, int strings) {
        if (player < 0 || player > 5) return NO_SUCH;
        if (strings < 1 || strings > 9) return BAD_VALUE;
        if (world.strings[player] + strings > 20) return TOO_MANY;
        record();
        return world.strings[player] += strings;
    }

    public int strike(int striker, int struck, int swing) {
        World before = world.copy();
        int answer = strikeIn(world, striker, struck, swing);
        return recordIfGood(before, answer, answer >= 0);
    }

    private static int strikeIn(World w, int striker, int struck, int swing) {
        if (!w.has(striker) || !w.has(struck)) return NO_SUCH;
        if (swing < 1 || swing > 9) return BAD_VALUE;
        Conker a = w.conkers.get(striker);
        Conker b = w.conkers.get(struck);
        if (a.player == b.player || a.how != How.IN_PLAY || b.how != How.IN_PLAY) return NOT_POSSIBLE;
        w.strikes++;
        b.crack += swing * a.hardness / b.hardness;
        a.crack += swing * b.hardness / (a.hardness * 2);
        a.wear += swing > 6 ? 2 : 1;
        b.wear += 1;
        for (Conker c : List.of(a, b)) {
            if (c.crack > 100) c.crack = 100;
            if (c.wear > 20) c.wear = 20;
            if (c.crack == 100) {
                c.how = How.SMASHED;
                c.boast = null;
            }
        }
        if (a.how == How.SMASHED && b.how == How.SMASHED) {
            w.lost += a.victories + b.victories;
            a.victories = 0;
            b.victories = 0;
        } else if (a.how == How.SMASHED || b.how == How.SMASHED) {
            Conker gone = a.how == How.SMASHED ? a : b;
            Conker heir = gone == a ? b : a;
            heir.victories = heir.victories + 1 + gone.victories;
            gone.victories = 0;
            gone.heir = heir.number;
        }
        for (Conker c : List.of(a, b)) {
            if (c.how != How.SMASHED && c.wear == 20) c.how = How.FALLEN;
        }
        int sum = 0;
        if (a.how == How.SMASHED) sum += 1;
        if (b.how == How.SMASHED) sum += 2;
        if (a.how == How.FALLEN) sum += 4;
        if (b.how == How.FALLEN) sum += 8;
        return sum;
    }

    public int mend(int conker) {
        World before = world.copy();
        int answer = mendIn(world, conker);
        return recordIfGood(before, answer, answer >= 0);
    }

    private static int mendIn(World w, int conker) {
        if (!w.has(conker)) return NO_SUCH;
        Conker c = w.conkers.get(conker);
        if (c.how != How.FALLEN || w.strings[c.player] == 0) return NOT_POSSIBLE;
        c.how = How.IN_PLAY;
        c.wear = 0;
        return --w.strings[c.player];
    }

    public int stamp(int conker) {
        World before = world.copy();
        int answer = stampIn(world, conker);
        return recordIfGood(before, answer, answer >= 0);
    }

    private static int stampIn(World w, int conker) {
        if (!w.has(conker)) return NO_SUCH;
        Conker c = w.conkers.get(conker);
        if (c.how != How.FALLEN) return NOT_POSSIBLE;
        int lost = c.victories;
        c.how = How.SMASHED;
        c.boast = null;
        c.victories = 0;
        w.lost += lost;
        return lost;
    }

    public int boast(int conker, int victories) {
        if (!world.has(conker)) return NO_SUCH;
        if (victories < 0 || victories > 99) return BAD_VALUE;
        if (world.conkers.get(conker).how == How.SMASHED) return NOT_POSSIBLE;
        record();
        Integer previous = world.conkers.get(conker).boast;
        world.conkers.get(conker).boast = victories;
        return previous == null ? NONE : previous;
    }

    public int doubt(int player, int conker) {
        if (player < 0 || player > 5 || !world.has(conker)) return NO_SUCH;
        Conker c = world.conkers.get(conker);
        if (c.player == player) return BAD_VALUE;
        if (c.boast == null) return NOT_POSSIBLE;
        record();
        int loser = c.boast > c.victories ? c.player : player;
        world.shame[loser]++;
        c.boast = null;
        return loser;
    }

    private static int nextX(int x) {
        return (int) ((25173L * x + 13849L) % 65536L);
    }

    public int bout(int one, int other, int x) {
        World before = world.copy();
        int answer = boutIn(world, one, other, x);
        return recordIfGood(before, answer, answer >= 0);
    }

    private static int boutIn(World w, int one, int other, int x) {
        if (!w.has(one) || !w.has(other)) return NO_SUCH;
        if (x < 0 || x > 65535) return BAD_VALUE;
        Conker a = w.conkers.get(Math.min(one, other));
        Conker b = w.conkers.get(Math.max(one, other));
        if (a.player == b.player || a.how != How.IN_PLAY || b.how != How.IN_PLAY) return NOT_POSSIBLE;
        int strikes = 0;
        while (strikes < 20 && a.how == How.IN_PLAY && b.how == How.IN_PLAY) {
            x = nextX(x);
            boolean aStrikes = strikes % 2 == 0;
            strikeIn(w, aStrikes ? a.number : b.number, aStrikes ? b.number : a.number, 1 + x / 7282);
            strikes++;
        }
        return strikes;
    }

    private static int sent(World w, int player) {
        return w.conkers.stream().filter(c -> c.player == player && c.how == How.IN_PLAY)
            .min(Comparator.comparingInt((Conker c) -> -c.victories).thenComparingInt(c -> c.number))
            .map(c -> c.number).orElse(NONE);
    }

    public int round(int x) {
        if (x < 0 || x > 65535) return BAD_VALUE;
        record();
        World w = world;
        List<Integer> row = IntStream.range(0, 6).boxed().filter(p -> sent(w, p) != NONE)
            .sorted(Comparator.comparingInt((Integer p) -> w.shame[p]).thenComparingInt(p -> p))
            .collect(Collectors.toCollection(ArrayList::new));
        List<Integer> conkers = row.stream().map(p -> sent(w, p)).collect(Collectors.toCollection(ArrayList::new));
        int bouts = 0;
        while (conkers.size() >= 2) {
            x = nextX(x);
            int other = conkers.remove(1 + x % (conkers.size() - 1));
            int first = conkers.remove(0);
            int strikes = boutIn(w, first, other, x);
            for (int i = 0; i < strikes; i++) {
                x = nextX(x);
            }
            bouts++;
        }
        return bouts;
    }

    public int append(int character) {
        if (character < 32 || character > 126) return BAD_VALUE;
        if (text.length() == 60) return TOO_MANY;
        text += (char) character;
        return text.length();
    }

    public int clearText() {
        int length = text.length();
        text = "";
        return length;
    }

    /** A beginning stands in a script if the matcher takes it whole or wants more at its end. */
    public int fault() {
        if (SCRIPT.matcher(text).matches()) return NONE;
        for (int end = 1; end <= text.length(); end++) {
            Matcher m = SCRIPT.matcher(text.substring(0, end));
            if (!m.matches() && !m.hitEnd()) return end - 1;
        }
        return text.length();
    }

    public int run() {
        int fault = fault();
        if (fault != NONE) return -100 - fault;
        record();
        int done = 0;
        for (String order : text.split(",")) {
            if (carryOut(order) < 0) return done;
            done++;
        }
        return done;
    }

    private int carryOut(String order) {
        if (order.startsWith("t")) return mendIn(world, Integer.parseInt(order.substring(1)));
        if (order.startsWith("s")) return stampIn(world, Integer.parseInt(order.substring(1)));
        String[] parts = order.split("[x:]");
        return strikeIn(world, Integer.parseInt(parts[0]), Integer.parseInt(parts[1]), Integer.parseInt(parts[2]));
    }

    public int undo() {
        if (past.isEmpty()) return NONE;
        world = past.removeLast();
        return past.size();
    }

    public int save() {
        saved = world.copy();
        return (int) world.number(How.IN_PLAY);
    }

    public int restore() {
        if (saved == null) return NOT_POSSIBLE;
        record();
        world = saved.copy();
        return (int) world.number(How.IN_PLAY);
    }

    private long smashedBy(int conker) {
        return world.conkers.stream().filter(c -> c.heir != null && c.heir == conker).count();
    }

    public int conker(int conker, int what) {
        if (!world.has(conker)) return NO_SUCH;
        if (what < 0 || what > 8) return BAD_VALUE;
        Conker c = world.conkers.get(conker);
        return List.of(c.player, c.hardness, c.crack, c.wear, c.victories, c.boast == null ? NONE : c.boast,
            c.how.ordinal(), c.heir == null ? NONE : c.heir, (int) smashedBy(conker)).get(what);
    }

    private long ofPlayer(int player, How how) {
        return world.conkers.stream().filter(c -> c.player == player && c.how == how).count();
    }

    private int victories(int player) {
        return world.conkers.stream().filter(c -> c.player == player && c.how != How.SMASHED)
            .mapToInt(c -> c.victories).sum();
    }

    public int player(int player, int what) {
        if (player < 0 || player > 5) return NO_SUCH;
        if (what < 0 || what > 6) return BAD_VALUE;
        return List.of(world.strings[player], world.shame[player], (int) ofPlayer(player, How.IN_PLAY),
            (int) ofPlayer(player, How.FALLEN), (int) ofPlayer(player, How.SMASHED), victories(player),
            sent(world, player)).get(what);
    }

    public int ranked(int rank) {
        if (rank < 0) return BAD_VALUE;
        List<Conker> all = world.conkers.stream().filter(c -> c.how != How.SMASHED)
            .sorted(Comparator.comparingInt((Conker c) -> -c.victories).thenComparingInt(c -> c.number))
            .collect(Collectors.toList());
        return rank < all.size() ? all.get(rank).number : NONE;
    }

    public int line(int conker) {
        if (!world.has(conker)) return NO_SUCH;
        return world.conkers.stream().filter(c -> c.heir != null && c.heir == conker)
            .mapToInt(c -> 1 + line(c.number)).sum();
    }

    public int count(int what) {
        if (what < 0 || what > 11) return BAD_VALUE;
        List<Conker> all = world.conkers;
        long[] numbers = {
            all.size(), world.number(How.IN_PLAY), world.number(How.FALLEN), world.number(How.SMASHED),
            all.stream().mapToInt(c -> c.victories).sum(), world.lost, world.strikes,
            all.stream().filter(c -> c.heir != null).count(),
            all.stream().filter(c -> c.boast != null).count(),
            all.stream().filter(c -> c.boast != null && c.boast > c.victories).count(),
            past.size(), text.length()};
        return (int) numbers[what];
    }

    public int ifStruck(int striker, int struck, int swing) {
        return strikeIn(world.copy(), striker, struck, swing);
    }

    public int leastSwing(int striker, int struck) {
        int error = ifStruck(striker, struck, 1);
        if (error < 0) return error;
        return IntStream.rangeClosed(1, 9).filter(swing -> {
            int answer = ifStruck(striker, struck, swing);
            return answer % 4 == 2;
        }).findFirst().orElse(NONE);
    }

    public int winner(int one, int other, int x) {
        World w = world.copy();
        int answer = boutIn(w, one, other, x);
        if (answer < 0) return answer;
        Integer heirOfOne = w.conkers.get(one).heir;
        Integer heirOfOther = w.conkers.get(other).heir;
        if (heirOfOne != null) return heirOfOne;
        return heirOfOther != null ? heirOfOther : NONE;
    }

    public float share(int player) {
        int all = IntStream.range(0, 6).map(this::victories).sum();
        if (player < 0 || player > 5 || all == 0) return 0.0f;
        return (float) victories(player) / all;
    }
}
