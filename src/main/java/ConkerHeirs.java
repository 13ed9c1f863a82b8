/** A game of conkers whose victories are added to the winner's own. README.md tells how to use it. */
public final class ConkerHeirs {
    public static final int NO_SUCH = -1;
    public static final int BAD_VALUE = -2;
    public static final int TOO_MANY = -3;
    public static final int NOT_POSSIBLE = -4;
    public static final int NONE = -5;

    private static final int PLAYERS = 6;
    private static final int CONKERS = 30;
    private static final int FIRST_STRINGS = 3;
    private static final int MOST_STRINGS = 20;
    private static final int MOST_GIVEN = 9;
    private static final int MOST_HARDNESS = 9;
    private static final int MOST_SWING = 9;
    private static final int MOST_GENTLE_SWING = 6;
    private static final int MOST_CRACK = 100;
    private static final int MOST_WEAR = 20;
    private static final int MOST_BOAST = 99;
    private static final int MOST_STRIKES = 20;
    private static final int MOST_X = 65535;
    private static final int MOST_SIGNS = 60;
    private static final int MOST_STATES = 5;
    private static final int FAULT_BASE = -100;

    private static final int IN_PLAY = 0;
    private static final int FALLEN = 1;
    private static final int SMASHED = 2;

    /** Stands in the place of a player where all players are meant. */
    private static final int EVERYONE = -1;
    private static final int OK = 0;

    private final State now = new State();
    private final State snapshot = new State();
    /** What would be is tried out on this copy, so that no call has to make one. */
    private final State trial = new State();
    private final History history = new History();
    private final Script script = new Script();
    private final Draws draws = new Draws();
    private final Row row = new Row();
    private boolean hasSnapshot = false;

    public ConkerHeirs() {
    }

    // ---- conkers

    public int thread(int player, int hardness) {
        if (!isPlayer(player)) {
            return NO_SUCH;
        }
        if (!isWithin(hardness, 1, MOST_HARDNESS)) {
            return BAD_VALUE;
        }
        if (now.strings[player] < 1) {
            return NOT_POSSIBLE;
        }
        if (now.conkers >= CONKERS) {
            return TOO_MANY;
        }
        history.keep(now);
        return now.addConker(player, hardness);
    }

    public int give(int player, int strings) {
        if (!isPlayer(player)) {
            return NO_SUCH;
        }
        if (!isWithin(strings, 1, MOST_GIVEN)) {
            return BAD_VALUE;
        }
        if (now.strings[player] + strings > MOST_STRINGS) {
            return TOO_MANY;
        }
        history.keep(now);
        now.strings[player] += strings;
        return now.strings[player];
    }

    public int strike(int striker, int struck, int swing) {
        int error = now.strikeError(striker, struck, swing);
        if (error != OK) {
            return error;
        }
        history.keep(now);
        return now.hit(striker, struck, swing);
    }

    public int mend(int conker) {
        int error = now.mendError(conker);
        if (error != OK) {
            return error;
        }
        history.keep(now);
        return now.threadAgain(conker);
    }

    public int stamp(int conker) {
        int error = now.fallenError(conker);
        if (error != OK) {
            return error;
        }
        history.keep(now);
        return now.crush(conker);
    }

    // ---- boasts

    public int boast(int conker, int victories) {
        if (!now.hasConker(conker)) {
            return NO_SUCH;
        }
        if (!isWithin(victories, 0, MOST_BOAST)) {
            return BAD_VALUE;
        }
        if (now.how[conker] == SMASHED) {
            return NOT_POSSIBLE;
        }
        history.keep(now);
        int previous = now.boasts[conker];
        now.boasts[conker] = victories;
        return previous;
    }

    public int doubt(int player, int conker) {
        if (!isPlayer(player) || !now.hasConker(conker)) {
            return NO_SUCH;
        }
        if (now.owner[conker] == player) {
            return BAD_VALUE;
        }
        if (now.boasts[conker] == NONE) {
            return NOT_POSSIBLE;
        }
        history.keep(now);
        return now.settleBoast(player, conker);
    }

    // ---- bouts and rounds

    public int bout(int one, int other, int x) {
        int error = now.boutError(one, other, x);
        if (error != OK) {
            return error;
        }
        history.keep(now);
        draws.begin(x);
        return now.fight(one, other, draws);
    }

    public int round(int x) {
        if (!isWithin(x, 0, MOST_X)) {
            return BAD_VALUE;
        }
        history.keep(now);
        draws.begin(x);
        row.lineUp(now);
        int bouts = 0;
        while (bouts < PLAYERS && row.length >= 2) {
            int other = row.takeOut(1 + draws.next() % (row.length - 1));
            int first = row.takeOut(0);
            now.fight(first, other, draws);
            bouts++;
        }
        return bouts;
    }

    // ---- text

    public int append(int character) {
        if (!isWithin(character, 32, 126)) {
            return BAD_VALUE;
        }
        if (script.length >= MOST_SIGNS) {
            return TOO_MANY;
        }
        script.signs[script.length] = (char) character;
        script.length++;
        return script.length;
    }

    public int clearText() {
        int had = script.length;
        script.length = 0;
        return had;
    }

    public int fault() {
        return script.findFault();
    }

    public int run() {
        int fault = script.findFault();
        if (fault != NONE) {
            return FAULT_BASE - fault;
        }
        history.keep(now);
        script.rewind();
        int done = 0;
        while (done < MOST_SIGNS && script.readOrder() && carryOutOrder() >= 0) {
            done++;
            if (!script.take(',')) {
                return done;
            }
        }
        return done;
    }

    // ---- history and snapshot

    public int undo() {
        return history.bringBack(now);
    }

    public int save() {
        snapshot.copyFrom(now);
        hasSnapshot = true;
        return now.conkersBeing(IN_PLAY, EVERYONE);
    }

    public int restore() {
        if (!hasSnapshot) {
            return NOT_POSSIBLE;
        }
        history.keep(now);
        now.copyFrom(snapshot);
        return now.conkersBeing(IN_PLAY, EVERYONE);
    }

    // ---- queries; they change nothing

    public int conker(int conker, int what) {
        if (!now.hasConker(conker)) {
            return NO_SUCH;
        }
        switch (what) {
            case 0: return now.owner[conker];
            case 1: return now.hardness[conker];
            case 2: return now.crack[conker];
            case 3: return now.wear[conker];
            case 4: return now.victories[conker];
            case 5: return now.boasts[conker];
            case 6: return now.how[conker];
            case 7: return now.smashedBy[conker];
            case 8: return now.conkersSmashedBy(conker);
            default: return BAD_VALUE;
        }
    }

    public int player(int player, int what) {
        if (!isPlayer(player)) {
            return NO_SUCH;
        }
        switch (what) {
            case 0: return now.strings[player];
            case 1: return now.shame[player];
            case 2: return now.conkersBeing(IN_PLAY, player);
            case 3: return now.conkersBeing(FALLEN, player);
            case 4: return now.conkersBeing(SMASHED, player);
            case 5: return now.victoriesOf(player);
            case 6: return now.conkerToSend(player);
            default: return BAD_VALUE;
        }
    }

    public int ranked(int rank) {
        if (rank < 0) {
            return BAD_VALUE;
        }
        return now.conkerAtRank(rank);
    }

    public int line(int conker) {
        if (!now.hasConker(conker)) {
            return NO_SUCH;
        }
        return now.lengthOfLine(conker);
    }

    public int count(int what) {
        switch (what) {
            case 0: return now.conkers;
            case 1: return now.conkersBeing(IN_PLAY, EVERYONE);
            case 2: return now.conkersBeing(FALLEN, EVERYONE);
            case 3: return now.conkersBeing(SMASHED, EVERYONE);
            case 4: return now.victoriesOf(EVERYONE);
            case 5: return now.lostVictories;
            case 6: return now.strikes;
            case 7: return now.conkersWithHeir();
            case 8: return now.boastsTold();
            case 9: return now.boastsTooHigh();
            case 10: return history.held;
            case 11: return script.length;
            default: return BAD_VALUE;
        }
    }

    // ---- what would be; nothing is changed

    public int ifStruck(int striker, int struck, int swing) {
        int error = now.strikeError(striker, struck, swing);
        if (error != OK) {
            return error;
        }
        return tryHit(striker, struck, swing);
    }

    public int leastSwing(int striker, int struck) {
        int error = now.strikeError(striker, struck, 1);
        if (error != OK) {
            return error;
        }
        for (int swing = 1; swing <= MOST_SWING; swing++) {
            int smashed = tryHit(striker, struck, swing) & 3;
            if (smashed == 2) {
                return swing;
            }
        }
        return NONE;
    }

    public int winner(int one, int other, int x) {
        int error = now.boutError(one, other, x);
        if (error != OK) {
            return error;
        }
        trial.copyFrom(now);
        draws.begin(x);
        trial.fight(one, other, draws);
        boolean oneSmashed = trial.how[one] == SMASHED;
        boolean otherSmashed = trial.how[other] == SMASHED;
        if (oneSmashed == otherSmashed) {
            return NONE;
        }
        return oneSmashed ? other : one;
    }

    public float share(int player) {
        int all = now.victoriesOf(EVERYONE);
        if (!isPlayer(player) || all < 1) {
            return 0.0f;
        }
        return (float) now.victoriesOf(player) / (float) all;
    }

    // ---- helpers of the face

    private static boolean isWithin(int value, int least, int most) {
        return value >= least && value <= most;
    }

    private static boolean isPlayer(int player) {
        return isWithin(player, 0, PLAYERS - 1);
    }

    private int tryHit(int striker, int struck, int swing) {
        trial.copyFrom(now);
        return trial.hit(striker, struck, swing);
    }

    /** Carries out the order that the script read last; below 0 is the error code of its method. */
    private int carryOutOrder() {
        int error;
        switch (script.kind) {
            case 't':
                error = now.mendError(script.first);
                return error != OK ? error : now.threadAgain(script.first);
            case 's':
                error = now.fallenError(script.first);
                return error != OK ? error : now.crush(script.first);
            default:
                error = now.strikeError(script.first, script.second, script.swing);
                return error != OK ? error : now.hit(script.first, script.second, script.swing);
        }
    }

    /** The players, the conkers and what is counted: all that undo and restore bring back. */
    private static final class State {
        final int[] strings = new int[PLAYERS];
        final int[] shame = new int[PLAYERS];
        final int[] owner = new int[CONKERS];
        final int[] hardness = new int[CONKERS];
        final int[] crack = new int[CONKERS];
        final int[] wear = new int[CONKERS];
        final int[] victories = new int[CONKERS];
        final int[] boasts = new int[CONKERS];
        final int[] how = new int[CONKERS];
        final int[] smashedBy = new int[CONKERS];
        int conkers = 0;
        int lostVictories = 0;
        int strikes = 0;

        State() {
            for (int player = 0; player < PLAYERS; player++) {
                strings[player] = FIRST_STRINGS;
            }
        }

        void copyFrom(State other) {
            System.arraycopy(other.strings, 0, strings, 0, PLAYERS);
            System.arraycopy(other.shame, 0, shame, 0, PLAYERS);
            System.arraycopy(other.owner, 0, owner, 0, CONKERS);
            System.arraycopy(other.hardness, 0, hardness, 0, CONKERS);
            System.arraycopy(other.crack, 0, crack, 0, CONKERS);
            System.arraycopy(other.wear, 0, wear, 0, CONKERS);
            System.arraycopy(other.victories, 0, victories, 0, CONKERS);
            System.arraycopy(other.boasts, 0, boasts, 0, CONKERS);
            System.arraycopy(other.how, 0, how, 0, CONKERS);
            System.arraycopy(other.smashedBy, 0, smashedBy, 0, CONKERS);
            conkers = other.conkers;
            lostVictories = other.lostVictories;
            strikes = other.strikes;
        }

        boolean hasConker(int conker) {
            return isWithin(conker, 0, conkers - 1);
        }

        // ---- which errors stand against an action

        int strikeError(int striker, int struck, int swing) {
            return pairError(striker, struck, isWithin(swing, 1, MOST_SWING));
        }

        int boutError(int one, int other, int x) {
            return pairError(one, other, isWithin(x, 0, MOST_X));
        }

        private int pairError(int one, int other, boolean valueIsGood) {
            if (!hasConker(one) || !hasConker(other)) {
                return NO_SUCH;
            }
            if (!valueIsGood) {
                return BAD_VALUE;
            }
            return owner[one] == owner[other] || !areInPlay(one, other) ? NOT_POSSIBLE : OK;
        }

        int mendError(int conker) {
            int error = fallenError(conker);
            if (error != OK) {
                return error;
            }
            return strings[owner[conker]] < 1 ? NOT_POSSIBLE : OK;
        }

        int fallenError(int conker) {
            if (!hasConker(conker)) {
                return NO_SUCH;
            }
            return how[conker] == FALLEN ? OK : NOT_POSSIBLE;
        }

        // ---- actions; their errors have been looked for before

        int addConker(int player, int itsHardness) {
            int conker = conkers;
            strings[player]--;
            owner[conker] = player;
            hardness[conker] = itsHardness;
            crack[conker] = 0;
            wear[conker] = 0;
            victories[conker] = 0;
            boasts[conker] = NONE;
            how[conker] = IN_PLAY;
            smashedBy[conker] = NONE;
            conkers++;
            return conker;
        }

        int threadAgain(int conker) {
            int player = owner[conker];
            strings[player]--;
            wear[conker] = 0;
            how[conker] = IN_PLAY;
            return strings[player];
        }

        int crush(int conker) {
            int lost = takeVictoriesOfSmashed(conker);
            lostVictories += lost;
            return lost;
        }

        int settleBoast(int doubter, int conker) {
            int ashamed = boasts[conker] > victories[conker] ? owner[conker] : doubter;
            shame[ashamed]++;
            boasts[conker] = NONE;
            return ashamed;
        }

        int hit(int striker, int struck, int swing) {
            int struckGrowth = quotient(swing * hardness[striker], hardness[struck]);
            int strikerGrowth = quotient(swing * hardness[struck], 2 * hardness[striker]);
            strikes++;
            crack[struck] = Math.min(crack[struck] + struckGrowth, MOST_CRACK);
            crack[striker] = Math.min(crack[striker] + strikerGrowth, MOST_CRACK);
            wear[striker] = Math.min(wear[striker] + (swing > MOST_GENTLE_SWING ? 2 : 1), MOST_WEAR);
            wear[struck] = Math.min(wear[struck] + 1, MOST_WEAR);
            settleSmashes(striker, struck);
            fallIfWorn(striker);
            fallIfWorn(struck);
            return outcome(striker, 1, 4) + outcome(struck, 2, 8);
        }

        /** Two conkers in play strike by turns; tells how many strikes there were. */
        int fight(int one, int other, Draws draws) {
            int striker = Math.min(one, other);
            int struck = Math.max(one, other);
            int done = 0;
            while (done < MOST_STRIKES && areInPlay(striker, struck)) {
                hit(striker, struck, draws.swing());
                int next = struck;
                struck = striker;
                striker = next;
                done++;
            }
            return done;
        }

        private void settleSmashes(int striker, int struck) {
            boolean strikerBreaks = crack[striker] == MOST_CRACK;
            boolean struckBreaks = crack[struck] == MOST_CRACK;
            if (strikerBreaks && struckBreaks) {
                crush(striker);
                crush(struck);
            } else if (strikerBreaks) {
                inherit(struck, striker);
            } else if (struckBreaks) {
                inherit(striker, struck);
            }
        }

        private void inherit(int heir, int smashed) {
            victories[heir] += 1 + takeVictoriesOfSmashed(smashed);
            smashedBy[smashed] = heir;
        }

        private int takeVictoriesOfSmashed(int conker) {
            int had = victories[conker];
            victories[conker] = 0;
            boasts[conker] = NONE;
            how[conker] = SMASHED;
            return had;
        }

        private void fallIfWorn(int conker) {
            if (how[conker] == IN_PLAY && wear[conker] == MOST_WEAR) {
                how[conker] = FALLEN;
            }
        }

        private int outcome(int conker, int ifSmashed, int ifFallen) {
            if (how[conker] == SMASHED) {
                return ifSmashed;
            }
            return how[conker] == FALLEN ? ifFallen : 0;
        }

        private static int quotient(int dividend, int divisor) {
            return divisor < 1 ? 0 : dividend / divisor;
        }

        // ---- queries

        private boolean areInPlay(int one, int other) {
            return how[one] == IN_PLAY && how[other] == IN_PLAY;
        }

        private boolean isOf(int conker, int player) {
            return player == EVERYONE || owner[conker] == player;
        }

        int conkersBeing(int itsHow, int player) {
            int found = 0;
            for (int conker = 0; conker < conkers; conker++) {
                if (how[conker] == itsHow && isOf(conker, player)) {
                    found++;
                }
            }
            return found;
        }

        int victoriesOf(int player) {
            int sum = 0;
            for (int conker = 0; conker < conkers; conker++) {
                if (isOf(conker, player)) {
                    sum += victories[conker];
                }
            }
            return sum;
        }

        int conkerToSend(int player) {
            int best = NONE;
            for (int conker = 0; conker < conkers; conker++) {
                if (how[conker] == IN_PLAY && owner[conker] == player
                        && (best < 0 || victories[conker] > victories[best])) {
                    best = conker;
                }
            }
            return best;
        }

        int conkerAtRank(int rank) {
            for (int conker = 0; conker < conkers; conker++) {
                if (how[conker] != SMASHED && conkersAheadOf(conker) == rank) {
                    return conker;
                }
            }
            return NONE;
        }

        private int conkersAheadOf(int conker) {
            int ahead = 0;
            for (int other = 0; other < conkers; other++) {
                boolean hasMore = victories[other] > victories[conker];
                boolean isEarlier = victories[other] == victories[conker] && other < conker;
                if (how[other] != SMASHED && (hasMore || isEarlier)) {
                    ahead++;
                }
            }
            return ahead;
        }

        int conkersSmashedBy(int heir) {
            int found = 0;
            for (int conker = 0; conker < conkers; conker++) {
                if (smashedBy[conker] == heir) {
                    found++;
                }
            }
            return found;
        }

        /** How many conkers were smashed by one that was not smashed with them. */
        int conkersWithHeir() {
            return conkers - conkersSmashedBy(NONE);
        }

        int lengthOfLine(int head) {
            int found = 0;
            for (int conker = 0; conker < conkers; conker++) {
                if (isInLineOf(conker, head)) {
                    found++;
                }
            }
            return found;
        }

        /** The chain has an end: a conker is smashed later than all that it smashed. */
        private boolean isInLineOf(int conker, int head) {
            int above = smashedBy[conker];
            for (int steps = 0; steps < conkers && hasConker(above); steps++) {
                if (above == head) {
                    return true;
                }
                above = smashedBy[above];
            }
            return false;
        }

        int boastsTold() {
            int found = 0;
            for (int conker = 0; conker < conkers; conker++) {
                if (boasts[conker] != NONE) {
                    found++;
                }
            }
            return found;
        }

        int boastsTooHigh() {
            int found = 0;
            for (int conker = 0; conker < conkers; conker++) {
                if (boasts[conker] > victories[conker]) {
                    found++;
                }
            }
            return found;
        }
    }

    /** The latest states before actions, the oldest first. */
    private static final class History {
        private final State[] states = new State[MOST_STATES];
        int held = 0;

        History() {
            for (int i = 0; i < MOST_STATES; i++) {
                states[i] = new State();
            }
        }

        void keep(State state) {
            if (held >= MOST_STATES) {
                dropOldest();
            }
            states[held].copyFrom(state);
            held++;
        }

        /** Puts the latest state into the given one; tells how many are left, NONE if there was none. */
        int bringBack(State state) {
            if (held < 1) {
                return NONE;
            }
            held--;
            state.copyFrom(states[held]);
            return held;
        }

        /** The dropped state goes to the end, where it is used again. */
        private void dropOldest() {
            State oldest = states[0];
            for (int i = 1; i < MOST_STATES; i++) {
                states[i - 1] = states[i];
            }
            states[MOST_STATES - 1] = oldest;
            held--;
        }
    }

    /** The numbers x of bouts and rounds. */
    private static final class Draws {
        private int x = 0;

        void begin(int first) {
            x = first;
        }

        int next() {
            x = (25173 * x + 13849) % 65536;
            return x;
        }

        int swing() {
            return 1 + next() / 7282;
        }
    }

    /** The conkers that are sent to a round, in the order of their players in the row. */
    private static final class Row {
        private final int[] conkers = new int[PLAYERS];
        int length = 0;

        void lineUp(State state) {
            length = 0;
            for (int player = 0; player < PLAYERS; player++) {
                int conker = state.conkerToSend(player);
                if (conker >= 0) {
                    insert(conker, state);
                }
            }
        }

        private void insert(int conker, State state) {
            int shame = state.shame[state.owner[conker]];
            int place = length;
            while (place > 0 && state.shame[state.owner[conkers[place - 1]]] > shame) {
                conkers[place] = conkers[place - 1];
                place--;
            }
            conkers[place] = conker;
            length++;
        }

        int takeOut(int index) {
            int conker = conkers[index];
            for (int i = index + 1; i < length; i++) {
                conkers[i - 1] = conkers[i];
            }
            length--;
            return conker;
        }
    }

    /** The text, and a reader that goes through its orders; it stops where the fault is. */
    private static final class Script {
        private static final char END = 0;

        final char[] signs = new char[MOST_SIGNS];
        int length = 0;
        private int at = 0;
        char kind = END;
        int first = 0;
        int second = 0;
        int swing = 0;

        void rewind() {
            at = 0;
        }

        int findFault() {
            rewind();
            for (int orders = 0; orders < MOST_SIGNS; orders++) {
                if (!readOrder()) {
                    return at;
                }
                if (at == length) {
                    return NONE;
                }
                if (!take(',')) {
                    return at;
                }
            }
            return at;
        }

        /** Reads an order into kind, first, second and swing; false if there is none. */
        boolean readOrder() {
            kind = sign();
            if (kind == 't' || kind == 's') {
                at++;
                first = readConker();
                return first >= 0;
            }
            kind = 'x';
            first = readConker();
            if (first < 0 || !take('x')) {
                return false;
            }
            second = readConker();
            if (second < 0 || !take(':')) {
                return false;
            }
            swing = digit();
            if (swing < 1) {
                return false;
            }
            at++;
            return true;
        }

        boolean take(char wanted) {
            if (sign() != wanted) {
                return false;
            }
            at++;
            return true;
        }

        /** NONE if there is no conker; only 1 and 2 can be the first of two digits. */
        private int readConker() {
            int number = digit();
            if (number < 0) {
                return NONE;
            }
            at++;
            int next = digit();
            if ((number == 1 || number == 2) && next >= 0) {
                at++;
                return 10 * number + next;
            }
            return number;
        }

        private int digit() {
            char sign = sign();
            return sign >= '0' && sign <= '9' ? sign - '0' : NONE;
        }

        private char sign() {
            return at >= 0 && at < length ? signs[at] : END;
        }
    }
}
