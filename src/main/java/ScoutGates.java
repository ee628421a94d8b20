/** Gates for troops of scouts; ../shared/DOC.md says what each method promises. */
public final class ScoutGates {
    public static final int NO_SUCH = -1, BAD_VALUE = -2, BAD_TEXT = -3, TOO_MANY = -4, NOT_POSSIBLE = -5, NONE = -6;
    public static final int PATIENCE = 0, AWAY = 1;

    private static final int MOST_TROOPS = 5, MOST_SCOUTS = 16;
    private static final int SETTINGS = 2, MOST_OF_A_SETTING = 99;
    private static final int MOST_MINUTES = 9999, MOST_MINUTES_AT_ONCE = 99, MINUTES_LOOKED_AHEAD = 200;
    private static final int MOST_OPENINGS = 3, ROUNDS = 3;
    private static final int MOST_CHARACTERS = 80, CHARACTERS_AT_ONCE = 8, FIRST_CODE = 33, LAST_CODE = 126;
    private static final int MOST_UNDOS = 6, SLOTS = 2;

    /** How a scout is. */
    private static final int HOME = 0, INSIDE = 1, OUTSIDE = 2, ON_HIKE = 3, LOST = 4;

    /** What why() answers. */
    private static final int WOULD_BE_INSIDE = 0, IS_ON_HIKE = 1, IS_INSIDE = 2, IS_OUTSIDE = 3, WOULD_BE_OUTSIDE = 4;

    private final State now;
    private final History history;
    private final State[] slots;
    private final boolean[] isSaved;
    private final Pad pad;
    /** A copy for what-if questions, made once because room is short. */
    private final Troop trial;

    public ScoutGates() {
        now = new State();
        history = new History();
        slots = new State[SLOTS];
        for (int i = 0; i < SLOTS; i++) {
            slots[i] = new State();
        }
        isSaved = new boolean[SLOTS];
        pad = new Pad();
        trial = new Troop();
    }

    // ---- changes

    public int set(int setting, int value) {
        if (setting < 0 || setting >= SETTINGS) {
            return BAD_VALUE;
        }
        int least = setting == AWAY ? 1 : 0;
        if (value < least || value > MOST_OF_A_SETTING) {
            return BAD_VALUE;
        }
        history.note(now);
        int previous = now.settings[setting];
        now.settings[setting] = value;
        return recorded(previous);
    }

    public int troop(int size) {
        history.note(now);
        return recorded(addTroop(size));
    }

    public int resize(int troop, int size) {
        history.note(now);
        return recorded(changeSize(troop, size));
    }

    public int come(int troop, int scout, int colour) {
        history.note(now);
        return recorded(letCome(troop, scout, colour));
    }

    public int lose(int troop, int scout) {
        history.note(now);
        return recorded(loseScout(troop, scout));
    }

    public int find(int troop, int scout) {
        if (!isScout(troop, scout)) {
            return NO_SUCH;
        }
        Troop group = now.troops[troop];
        if (group.howIs(scout) != LOST) {
            return NOT_POSSIBLE;
        }
        history.note(now);
        int lostFor = group.minutes[scout];
        group.bringHome(scout);
        return recorded(lostFor);
    }

    public int pass(int minutes) {
        history.note(now);
        return recorded(passMinutes(minutes));
    }

    /** Keeps the noted state before a change, unless the change answered an error. */
    private int recorded(int answer) {
        if (answer >= 0) {
            history.keepNoted();
        }
        return answer;
    }

    // The changes that orders of a text can make too, without a record of their own.

    private int addTroop(int size) {
        if (!isSize(size)) {
            return BAD_VALUE;
        }
        if (now.troopCount >= MOST_TROOPS) {
            return TOO_MANY;
        }
        int number = now.troopCount;
        now.troops[number].begin(size);
        now.troopCount++;
        return number;
    }

    private int changeSize(int troop, int size) {
        if (!isTroop(troop)) {
            return NO_SUCH;
        }
        if (!isSize(size)) {
            return BAD_VALUE;
        }
        Troop group = now.troops[troop];
        int previous = group.nextSize;
        group.nextSize = size;
        return previous;
    }

    private int letCome(int troop, int scout, int colour) {
        int standing = why(troop, scout, colour);
        if (standing < 0) {
            return standing;
        }
        if (standing == WOULD_BE_OUTSIDE) {
            now.earlyComings++;
        } else if (standing != WOULD_BE_INSIDE) {
            return NOT_POSSIBLE;
        }
        return now.troops[troop].takeIn(scout, colour, now.settings[AWAY]);
    }

    private int loseScout(int troop, int scout) {
        if (!isScout(troop, scout)) {
            return NO_SUCH;
        }
        Troop group = now.troops[troop];
        int how = group.howIs(scout);
        if (how == ON_HIKE || how == LOST) {
            return NOT_POSSIBLE;
        }
        group.missScout(scout);
        return group.countDown();
    }

    private int passMinutes(int minutes) {
        if (minutes < 1 || minutes > MOST_MINUTES_AT_ONCE) {
            return BAD_VALUE;
        }
        if (now.minutes + minutes > MOST_MINUTES) {
            return NOT_POSSIBLE;
        }
        int openings = 0;
        for (int i = 0; i < minutes; i++) {
            for (int t = 0; t < now.troopCount; t++) {
                openings += now.troops[t].passMinute(now.settings[PATIENCE], now.settings[AWAY]);
            }
        }
        now.minutes += minutes;
        return openings;
    }

    // ---- what there is

    public int ofTroop(int troop, int what) {
        if (!isTroop(troop)) {
            return NO_SUCH;
        }
        Troop group = now.troops[troop];
        switch (what) {
            case 0: return group.size;
            case 1: return group.colour;
            case 2: return group.nextSize;
            case 3: return group.countDown();
            case 4: return group.hikes;
            case 5: return group.atHome();
            case 6: return group.inside;
            case 7: return group.outside;
            case 8: return group.onHike;
            case 9: return group.lost;
            case 10: return group.struck;
            case 11: return group.hikers;
            default: return BAD_VALUE;
        }
    }

    public int of(int troop, int scout, int what) {
        if (!isTroop(troop)) {
            return NO_SUCH;
        }
        Troop group = now.troops[troop];
        if (!group.knows(scout)) {
            return NO_SUCH;
        }
        switch (what) {
            case 0: return group.howIs(scout);
            case 1: return group.minutes[scout];
            case 2: return group.hikesOf[scout];
            case 3: return (group.struck >> scout) & 1;
            default: return BAD_VALUE;
        }
    }

    public int count(int what) {
        switch (what) {
            case 0: return now.minutes;
            case 1: return now.troopCount;
            case 2: return now.hikes();
            case 3: return now.scoutsOnHikes();
            case 4: return now.scoutsLost();
            case 5: return now.earlyComings;
            case 6: return now.settings[PATIENCE];
            case 7: return now.settings[AWAY];
            case 8: return pad.length;
            case 9: return history.kept;
            default: return BAD_VALUE;
        }
    }

    // ---- what if

    public int why(int troop, int scout, int colour) {
        if (!isScout(troop, scout)) {
            return NO_SUCH;
        }
        if (colour < 0 || colour > 1) {
            return BAD_VALUE;
        }
        Troop group = now.troops[troop];
        switch (group.howIs(scout)) {
            case ON_HIKE: return IS_ON_HIKE;
            case INSIDE: return IS_INSIDE;
            case OUTSIDE: return IS_OUTSIDE;
            default: return colour == group.colour ? WOULD_BE_INSIDE : WOULD_BE_OUTSIDE;
        }
    }

    public int waitsFor(int troop) {
        if (!isTroop(troop)) {
            return NO_SUCH;
        }
        return now.troops[troop].waitedFor();
    }

    public int opensIn(int troop) {
        if (!isTroop(troop)) {
            return NO_SUCH;
        }
        trial.copyFrom(now.troops[troop]);
        for (int minute = 1; minute <= MINUTES_LOOKED_AHEAD; minute++) {
            if (trial.passMinute(now.settings[PATIENCE], now.settings[AWAY]) > 0) {
                return minute;
            }
        }
        return NONE;
    }

    public int couldHike(int troop) {
        if (!isTroop(troop)) {
            return NO_SUCH;
        }
        trial.copyFrom(now.troops[troop]);
        int openings = 0;
        for (int round = 0; round < ROUNDS; round++) {
            for (int scout = 0; scout < MOST_SCOUTS; scout++) {
                if (trial.canCome(scout)) {
                    openings += trial.takeIn(scout, trial.colour, now.settings[AWAY]);
                }
            }
        }
        return openings;
    }

    // ---- texts

    public int put(long characters) {
        int more = Pad.charactersIn(characters);
        if (more == 0) {
            return BAD_VALUE;
        }
        if (pad.length + more > MOST_CHARACTERS) {
            return TOO_MANY;
        }
        pad.addCharacters(characters, more);
        return pad.length;
    }

    public int wipe() {
        int length = pad.length;
        pad.length = 0;
        return length;
    }

    public int fault() {
        return pad.faultAt();
    }

    public int carryOut() {
        if (pad.faultAt() != NONE) {
            return BAD_TEXT;
        }
        history.note(now);
        int carried = 0;
        pad.at = 0;
        while (carried < MOST_CHARACTERS && pad.readOrder() && carryOrder() >= 0) {
            carried++;
            pad.readSign(';');
        }
        pad.length = 0;
        return recorded(carried);
    }

    private int carryOrder() {
        switch (pad.kind) {
            case 'n': return addTroop(pad.number);
            case 'c': return letCome(pad.troop, pad.number, pad.colour);
            case 'l': return loseScout(pad.troop, pad.number);
            case 's': return changeSize(pad.troop, pad.number);
            case 't': return passMinutes(pad.number);
            default: return BAD_TEXT;
        }
    }

    // ---- undo, saving

    public int undo() {
        if (history.kept == 0) {
            return NOT_POSSIBLE;
        }
        history.takeBackInto(now);
        return history.kept;
    }

    public int save(int slot) {
        if (slot < 0 || slot >= SLOTS) {
            return BAD_VALUE;
        }
        slots[slot].copyFrom(now);
        isSaved[slot] = true;
        return now.troopCount;
    }

    public int restore(int slot) {
        if (slot < 0 || slot >= SLOTS) {
            return BAD_VALUE;
        }
        if (!isSaved[slot]) {
            return NOT_POSSIBLE;
        }
        history.note(now);
        now.copyFrom(slots[slot]);
        return recorded(now.troopCount);
    }

    // ---- what there can be

    private boolean isTroop(int troop) {
        return troop >= 0 && troop < now.troopCount;
    }

    private boolean isScout(int troop, int scout) {
        return isTroop(troop) && now.troops[troop].hasScout(scout);
    }

    private static boolean isSize(int size) {
        return size >= 1 && size <= MOST_SCOUTS;
    }

    /** One troop. A scout who is in none of the sets, and below the size, is at home. */
    private static final class Troop {
        int size, nextSize, colour;
        /** Sets of scouts, as bit masks. Only onHike can hold numbers that are not below the size. */
        int inside, outside, onHike, lost, struck;
        int hikes, hikers;
        /** Until the hike is over, or lost for how long; otherwise 0. */
        final int[] minutes;
        final int[] hikesOf;

        Troop() {
            minutes = new int[MOST_SCOUTS];
            hikesOf = new int[MOST_SCOUTS];
        }

        void begin(int firstSize) {
            size = firstSize;
            nextSize = firstSize;
            colour = 0;
            inside = 0;
            outside = 0;
            onHike = 0;
            lost = 0;
            struck = 0;
            hikes = 0;
            hikers = 0;
            for (int scout = 0; scout < MOST_SCOUTS; scout++) {
                minutes[scout] = 0;
                hikesOf[scout] = 0;
            }
        }

        void copyFrom(Troop other) {
            size = other.size;
            nextSize = other.nextSize;
            colour = other.colour;
            inside = other.inside;
            outside = other.outside;
            onHike = other.onHike;
            lost = other.lost;
            struck = other.struck;
            hikes = other.hikes;
            hikers = other.hikers;
            System.arraycopy(other.minutes, 0, minutes, 0, MOST_SCOUTS);
            System.arraycopy(other.hikesOf, 0, hikesOf, 0, MOST_SCOUTS);
        }

        boolean hasScout(int scout) {
            return scout >= 0 && scout < size;
        }

        /** Also true of one on a hike whose number is not below the size any more. */
        boolean knows(int scout) {
            return hasScout(scout) || (scout >= 0 && scout < MOST_SCOUTS && isIn(onHike, scout));
        }

        boolean canCome(int scout) {
            return hasScout(scout) && !isIn(inside | outside | onHike, scout);
        }

        int howIs(int scout) {
            if (isIn(inside, scout)) {
                return INSIDE;
            }
            if (isIn(outside, scout)) {
                return OUTSIDE;
            }
            if (isIn(onHike, scout)) {
                return ON_HIKE;
            }
            return isIn(lost, scout) ? LOST : HOME;
        }

        int everyone() {
            return (1 << size) - 1;
        }

        int atHome() {
            return everyone() & ~(inside | outside | onHike | lost);
        }

        int waitedFor() {
            return everyone() & ~(inside | struck);
        }

        int countDown() {
            return Integer.bitCount(waitedFor());
        }

        /** A scout comes who can; answers how often the gate opens by that. */
        int takeIn(int scout, int itsColour, int away) {
            bringHome(scout);
            if (itsColour == colour) {
                inside |= 1 << scout;
            } else {
                outside |= 1 << scout;
            }
            return openGate(away);
        }

        /** One who is struck stays struck: only the gate's opening ends that. */
        void bringHome(int scout) {
            inside &= ~(1 << scout);
            outside &= ~(1 << scout);
            onHike &= ~(1 << scout);
            lost &= ~(1 << scout);
            minutes[scout] = 0;
        }

        void missScout(int scout) {
            bringHome(scout);
            lost |= 1 << scout;
        }

        /** Answers how often the gate opens in this minute. */
        int passMinute(int patience, int away) {
            if ((onHike | lost) != 0) {
                for (int scout = 0; scout < MOST_SCOUTS; scout++) {
                    if (isIn(onHike, scout)) {
                        walkOn(scout);
                    } else if (isIn(lost, scout)) {
                        minutes[scout]++;
                        if (minutes[scout] > patience) {
                            struck |= 1 << scout;
                        }
                    }
                }
            }
            return openGate(away);
        }

        private void walkOn(int scout) {
            minutes[scout]--;
            if (minutes[scout] <= 0) {
                bringHome(scout);
                if (!hasScout(scout)) {
                    hikesOf[scout] = 0;
                }
            }
        }

        private int openGate(int away) {
            int openings = 0;
            while (openings < MOST_OPENINGS && inside != 0 && waitedFor() == 0) {
                beginHike(away);
                openings++;
            }
            return openings;
        }

        private void beginHike(int away) {
            for (int scout = 0; scout < MOST_SCOUTS; scout++) {
                if (isIn(inside, scout)) {
                    minutes[scout] = away;
                    hikesOf[scout]++;
                }
            }
            hikes++;
            hikers += Integer.bitCount(inside);
            onHike |= inside;
            colour = 1 - colour;
            size = nextSize;
            lost &= everyone();
            struck = 0;
            inside = outside & everyone();
            outside = 0;
            // Who is none any more leaves nothing behind: one that there is anew is without hikes.
            for (int scout = size; scout < MOST_SCOUTS; scout++) {
                if (!isIn(onHike, scout)) {
                    minutes[scout] = 0;
                    hikesOf[scout] = 0;
                }
            }
        }

        private static boolean isIn(int scouts, int scout) {
            return ((scouts >> scout) & 1) != 0;
        }
    }

    /** Everything that undo() and restore() bring back. */
    private static final class State {
        final int[] settings;
        final Troop[] troops;
        int troopCount, minutes, earlyComings;

        State() {
            settings = new int[SETTINGS];
            settings[PATIENCE] = 20;
            settings[AWAY] = 30;
            troops = new Troop[MOST_TROOPS];
            for (int t = 0; t < MOST_TROOPS; t++) {
                troops[t] = new Troop();
            }
        }

        void copyFrom(State other) {
            System.arraycopy(other.settings, 0, settings, 0, SETTINGS);
            troopCount = other.troopCount;
            minutes = other.minutes;
            earlyComings = other.earlyComings;
            for (int t = 0; t < troopCount; t++) {
                troops[t].copyFrom(other.troops[t]);
            }
        }

        int hikes() {
            int sum = 0;
            for (int t = 0; t < troopCount; t++) {
                sum += troops[t].hikes;
            }
            return sum;
        }

        int scoutsOnHikes() {
            int sum = 0;
            for (int t = 0; t < troopCount; t++) {
                sum += Integer.bitCount(troops[t].onHike);
            }
            return sum;
        }

        int scoutsLost() {
            int sum = 0;
            for (int t = 0; t < troopCount; t++) {
                sum += Integer.bitCount(troops[t].lost);
            }
            return sum;
        }
    }

    /** A ring of states with one place more than can be undone: the place of the noted state. */
    private static final class History {
        private static final int PLACES = MOST_UNDOS + 1;

        final State[] places;
        int oldest, kept;

        History() {
            places = new State[PLACES];
            for (int i = 0; i < PLACES; i++) {
                places[i] = new State();
            }
        }

        /** The noted state counts only once it is kept, so a change that fails costs no record. */
        void note(State state) {
            places[(oldest + kept) % PLACES].copyFrom(state);
        }

        void keepNoted() {
            if (kept < MOST_UNDOS) {
                kept++;
            } else {
                oldest = (oldest + 1) % PLACES;
            }
        }

        void takeBackInto(State state) {
            if (kept > 0) {
                kept--;
                state.copyFrom(places[(oldest + kept) % PLACES]);
            }
        }
    }

    /** The text of orders, and the order that was read from it last. */
    private static final class Pad {
        final char[] signs;
        int length;
        /** Where reading stands; behind a reading that failed, the place of the fault. */
        int at;
        char kind;
        int troop, number, colour;

        Pad() {
            signs = new char[MOST_CHARACTERS];
        }

        /** How many characters a number stands for; 0 if it stands for none, or for a wrong one. */
        static int charactersIn(long characters) {
            long rest = characters;
            int found = 0;
            while (found < CHARACTERS_AT_ONCE && rest != 0) {
                int code = (int) (rest & 255);
                if (code < FIRST_CODE || code > LAST_CODE) {
                    return 0;
                }
                rest >>>= 8;
                found++;
            }
            return found;
        }

        void addCharacters(long characters, int more) {
            long rest = characters;
            for (int i = length + more - 1; i >= length; i--) {
                signs[i] = (char) (rest & 255);
                rest >>>= 8;
            }
            length += more;
        }

        int faultAt() {
            at = 0;
            for (int orders = 0; orders < MOST_CHARACTERS; orders++) {
                if (!readOrder()) {
                    return at;
                }
                if (at >= length) {
                    return NONE;
                }
                if (!readSign(';')) {
                    return at;
                }
            }
            return at;
        }

        boolean readOrder() {
            kind = sign();
            switch (kind) {
                case 'n':
                case 't':
                    at++;
                    return readNumber();
                case 'c':
                    at++;
                    return readTroop() && readSign('.') && readNumber() && readColour();
                case 'l':
                    at++;
                    return readTroop() && readSign('.') && readNumber();
                case 's':
                    at++;
                    return readTroop() && readSign('=') && readNumber();
                default:
                    return false;
            }
        }

        boolean readSign(char wanted) {
            if (sign() != wanted) {
                return false;
            }
            at++;
            return true;
        }

        /** The character to be read next; behind the end one that no pad can hold. */
        private char sign() {
            return at < length ? signs[at] : 0;
        }

        private boolean isDigit() {
            return sign() >= '0' && sign() <= '9';
        }

        private boolean readTroop() {
            if (!isDigit()) {
                return false;
            }
            troop = sign() - '0';
            at++;
            return true;
        }

        /** A digit too much is left unread: it cannot stand where anything else is due. */
        private boolean readNumber() {
            if (!isDigit()) {
                return false;
            }
            number = sign() - '0';
            at++;
            if (number > 0 && isDigit()) {
                number = number * 10 + sign() - '0';
                at++;
            }
            return true;
        }

        private boolean readColour() {
            if (sign() != 'r' && sign() != 'b') {
                return false;
            }
            colour = sign() == 'r' ? 0 : 1;
            at++;
            return true;
        }
    }
}
