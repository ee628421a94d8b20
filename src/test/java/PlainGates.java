import java.util.ArrayDeque;
import java.util.ArrayList;
import java.util.Deque;
import java.util.List;
import java.util.regex.Matcher;
import java.util.regex.Pattern;

/**
 * The document once more, told another way than ScoutGates tells it (a record for every scout instead of
 * masks, a regular expression instead of a reader), so that both can be asked the same and compared.
 */
final class PlainGates {
    private static final int NO_SUCH = -1, BAD_VALUE = -2, BAD_TEXT = -3, TOO_MANY = -4, NOT_POSSIBLE = -5, NONE = -6;
    private static final String NUMBER = "(0|[1-9][0-9]?)";
    private static final String ORDER = "(n#|c[0-9]\\.#[rb]|l[0-9]\\.#|s[0-9]=#|t#)".replace("#", NUMBER);
    private static final Pattern TEXT = Pattern.compile(ORDER + "(;" + ORDER + ")*");

    enum How { HOME, INSIDE, OUTSIDE, HIKING, LOST }

    static final class Scout {
        How how = How.HOME;
        boolean struck;
        int hikes;
        int lostFor;
        int hikeLeft;

        Scout copy() {
            Scout other = new Scout();
            other.how = how;
            other.struck = struck;
            other.hikes = hikes;
            other.lostFor = lostFor;
            other.hikeLeft = hikeLeft;
            return other;
        }
    }

    /** Scouts who are none, and not on a hike, are null. */
    static final class Group {
        Scout[] scouts = new Scout[16];
        int size;
        int next;
        int colour;
        int hikes;
        int went;

        Group(int size) {
            this.size = size;
            this.next = size;
            for (int i = 0; i < size; i++) {
                scouts[i] = new Scout();
            }
        }

        Group copy() {
            Group other = new Group(size);
            for (int i = 0; i < 16; i++) {
                other.scouts[i] = scouts[i] == null ? null : scouts[i].copy();
            }
            other.next = next;
            other.colour = colour;
            other.hikes = hikes;
            other.went = went;
            return other;
        }

        int waited() {
            int set = 0;
            for (int i = 0; i < size; i++) {
                if (scouts[i].how != How.INSIDE && !scouts[i].struck) {
                    set += 1 << i;
                }
            }
            return set;
        }

        int setOf(How how) {
            int set = 0;
            for (int i = 0; i < 16; i++) {
                if (scouts[i] != null && scouts[i].how == how) {
                    set += 1 << i;
                }
            }
            return set;
        }

        int open(int away) {
            int times = 0;
            while (times < 3 && waited() == 0 && setOf(How.INSIDE) != 0) {
                times++;
                openOnce(away);
            }
            return times;
        }

        private void openOnce(int away) {
            hikes++;
            for (Scout scout : scouts) {
                if (scout != null && scout.how == How.INSIDE) {
                    scout.how = How.HIKING;
                    scout.hikeLeft = away;
                    scout.hikes++;
                    went++;
                }
            }
            colour = colour == 0 ? 1 : 0;
            size = next;
            for (int i = 0; i < 16; i++) {
                if (i >= size && scouts[i] != null && scouts[i].how != How.HIKING) {
                    scouts[i] = null;
                }
                if (i < size && scouts[i] == null) {
                    scouts[i] = new Scout();
                }
            }
            for (Scout scout : scouts) {
                if (scout != null) {
                    scout.struck = false;
                    if (scout.how == How.OUTSIDE) {
                        scout.how = How.INSIDE;
                    }
                }
            }
        }

        int minute(int patience, int away) {
            for (int i = 0; i < 16; i++) {
                Scout scout = scouts[i];
                if (scout != null && scout.how == How.HIKING && --scout.hikeLeft == 0) {
                    scout.how = How.HOME;
                    if (i >= size) {
                        scouts[i] = null;
                    }
                }
            }
            for (Scout scout : scouts) {
                if (scout != null && scout.how == How.LOST && ++scout.lostFor > patience) {
                    scout.struck = true;
                }
            }
            return open(away);
        }

        int arrive(int scout, int itsColour, int away) {
            scouts[scout].how = itsColour == colour ? How.INSIDE : How.OUTSIDE;
            scouts[scout].lostFor = 0;
            return open(away);
        }
    }

    static final class All {
        int patience = 20;
        int away = 30;
        int minutes;
        int early;
        List<Group> groups = new ArrayList<>();

        All copy() {
            All other = new All();
            other.patience = patience;
            other.away = away;
            other.minutes = minutes;
            other.early = early;
            for (Group group : groups) {
                other.groups.add(group.copy());
            }
            return other;
        }
    }

    private All all = new All();
    private final Deque<All> past = new ArrayDeque<>();
    private final All[] slots = new All[2];
    private String pad = "";
    private boolean inText = false;

    private void record() {
        if (inText) {
            return;
        }
        past.addLast(all.copy());
        if (past.size() > 6) {
            past.removeFirst();
        }
    }

    private Group group(int troop) {
        return troop < 0 || troop >= all.groups.size() ? null : all.groups.get(troop);
    }

    /** The scout of a troop who is one; null otherwise. */
    private Scout scout(int troop, int scout) {
        Group group = group(troop);
        return group == null || scout < 0 || scout >= group.size ? null : group.scouts[scout];
    }

    int set(int setting, int value) {
        if (setting == 0 && value >= 0 && value <= 99) {
            record();
            int old = all.patience;
            all.patience = value;
            return old;
        }
        if (setting == 1 && value >= 1 && value <= 99) {
            record();
            int old = all.away;
            all.away = value;
            return old;
        }
        return BAD_VALUE;
    }

    int troop(int size) {
        if (size < 1 || size > 16) {
            return BAD_VALUE;
        }
        if (all.groups.size() == 5) {
            return TOO_MANY;
        }
        record();
        all.groups.add(new Group(size));
        return all.groups.size() - 1;
    }

    int resize(int troop, int size) {
        if (group(troop) == null) {
            return NO_SUCH;
        }
        if (size < 1 || size > 16) {
            return BAD_VALUE;
        }
        record();
        int old = group(troop).next;
        group(troop).next = size;
        return old;
    }

    int come(int troop, int scout, int colour) {
        int why = why(troop, scout, colour);
        if (why < 0) {
            return why;
        }
        if (why >= 1 && why <= 3) {
            return NOT_POSSIBLE;
        }
        record();
        if (why == 4) {
            all.early++;
        }
        return group(troop).arrive(scout, colour, all.away);
    }

    int lose(int troop, int scout) {
        Scout one = scout(troop, scout);
        if (one == null) {
            return NO_SUCH;
        }
        if (one.how == How.HIKING || one.how == How.LOST) {
            return NOT_POSSIBLE;
        }
        record();
        one.how = How.LOST;
        one.lostFor = 0;
        return Integer.bitCount(group(troop).waited());
    }

    int find(int troop, int scout) {
        Scout one = scout(troop, scout);
        if (one == null) {
            return NO_SUCH;
        }
        if (one.how != How.LOST) {
            return NOT_POSSIBLE;
        }
        record();
        one.how = How.HOME;
        int lostFor = one.lostFor;
        one.lostFor = 0;
        return lostFor;
    }

    int pass(int minutes) {
        if (minutes < 1 || minutes > 99) {
            return BAD_VALUE;
        }
        if (all.minutes + minutes > 9999) {
            return NOT_POSSIBLE;
        }
        record();
        int times = 0;
        for (int i = 0; i < minutes; i++) {
            all.minutes++;
            for (Group group : all.groups) {
                times += group.minute(all.patience, all.away);
            }
        }
        return times;
    }

    int ofTroop(int troop, int what) {
        Group group = group(troop);
        if (group == null) {
            return NO_SUCH;
        }
        if (what >= 5 && what <= 9) {
            return group.setOf(How.values()[what - 5]);
        }
        switch (what) {
            case 0: return group.size;
            case 1: return group.colour;
            case 2: return group.next;
            case 3: return Integer.bitCount(group.waited());
            case 4: return group.hikes;
            case 10: {
                int set = 0;
                for (int i = 0; i < 16; i++) {
                    set += group.scouts[i] != null && group.scouts[i].struck ? 1 << i : 0;
                }
                return set;
            }
            case 11: return group.went;
            default: return BAD_VALUE;
        }
    }

    int of(int troop, int scout, int what) {
        Group group = group(troop);
        if (group == null || scout < 0 || scout > 15 || group.scouts[scout] == null) {
            return NO_SUCH;
        }
        Scout one = group.scouts[scout];
        switch (what) {
            case 0: return one.how.ordinal();
            case 1: return one.how == How.HIKING ? one.hikeLeft : one.how == How.LOST ? one.lostFor : 0;
            case 2: return one.hikes;
            case 3: return one.struck ? 1 : 0;
            default: return BAD_VALUE;
        }
    }

    int count(int what) {
        int sum = 0;
        switch (what) {
            case 0: return all.minutes;
            case 1: return all.groups.size();
            case 2:
                for (Group group : all.groups) {
                    sum += group.hikes;
                }
                return sum;
            case 3:
            case 4:
                for (Group group : all.groups) {
                    sum += Integer.bitCount(group.setOf(what == 3 ? How.HIKING : How.LOST));
                }
                return sum;
            case 5: return all.early;
            case 6: return all.patience;
            case 7: return all.away;
            case 8: return pad.length();
            case 9: return past.size();
            default: return BAD_VALUE;
        }
    }

    int why(int troop, int scout, int colour) {
        Scout one = scout(troop, scout);
        if (one == null) {
            return NO_SUCH;
        }
        if (colour != 0 && colour != 1) {
            return BAD_VALUE;
        }
        switch (one.how) {
            case HIKING: return 1;
            case INSIDE: return 2;
            case OUTSIDE: return 3;
            default: return group(troop).colour == colour ? 0 : 4;
        }
    }

    int waitsFor(int troop) {
        return group(troop) == null ? NO_SUCH : group(troop).waited();
    }

    int opensIn(int troop) {
        if (group(troop) == null) {
            return NO_SUCH;
        }
        Group trial = group(troop).copy();
        for (int minute = 1; minute <= 200; minute++) {
            if (trial.minute(all.patience, all.away) > 0) {
                return minute;
            }
        }
        return NONE;
    }

    int couldHike(int troop) {
        if (group(troop) == null) {
            return NO_SUCH;
        }
        Group trial = group(troop).copy();
        int times = 0;
        for (int i = 0; i < 3; i++) {
            for (int s = 0; s < trial.size; s++) {
                How how = trial.scouts[s].how;
                if (how == How.HOME || how == How.LOST) {
                    times += trial.arrive(s, trial.colour, all.away);
                }
            }
        }
        return times;
    }

    int put(long characters) {
        String more = "";
        boolean ended = false;
        for (int i = 0; i < 8; i++) {
            int code = (int) (characters >> 8 * i & 255);
            if (code == 0) {
                ended = true;
            } else if (ended || code < 33 || code > 126) {
                return BAD_VALUE;
            } else {
                more = (char) code + more;
            }
        }
        if (more.isEmpty()) {
            return BAD_VALUE;
        }
        if (pad.length() + more.length() > 80) {
            return TOO_MANY;
        }
        pad += more;
        return pad.length();
    }

    int wipe() {
        int length = pad.length();
        pad = "";
        return length;
    }

    int fault() {
        for (int i = 1; i <= pad.length(); i++) {
            Matcher matcher = TEXT.matcher(pad.substring(0, i));
            if (!matcher.matches() && !matcher.hitEnd()) {
                return i - 1;
            }
        }
        return TEXT.matcher(pad).matches() ? NONE : pad.length();
    }

    int carryOut() {
        if (fault() != NONE) {
            return BAD_TEXT;
        }
        record();
        inText = true;
        int done = 0;
        for (String order : pad.split(";")) {
            if (carryOut(order) < 0) {
                break;
            }
            done++;
        }
        inText = false;
        pad = "";
        return done;
    }

    private int carryOut(String order) {
        String[] numbers = order.substring(1).split("[.=rb]");
        int first = Integer.parseInt(numbers[0]);
        switch (order.charAt(0)) {
            case 'n': return troop(first);
            case 'c': return come(first, Integer.parseInt(numbers[1]), order.endsWith("r") ? 0 : 1);
            case 'l': return lose(first, Integer.parseInt(numbers[1]));
            case 's': return resize(first, Integer.parseInt(numbers[1]));
            default: return pass(first);
        }
    }

    int undo() {
        if (past.isEmpty()) {
            return NOT_POSSIBLE;
        }
        all = past.removeLast();
        return past.size();
    }

    int save(int slot) {
        if (slot != 0 && slot != 1) {
            return BAD_VALUE;
        }
        slots[slot] = all.copy();
        return all.groups.size();
    }

    int restore(int slot) {
        if (slot != 0 && slot != 1) {
            return BAD_VALUE;
        }
        if (slots[slot] == null) {
            return NOT_POSSIBLE;
        }
        record();
        all = slots[slot].copy();
        return all.groups.size();
    }
}
