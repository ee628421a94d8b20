/** Situations from which many tests begin, and a look at all that can be asked of an object. */
final class Scene {
    static final int NO_SUCH = -1, BAD_VALUE = -2, BAD_TEXT = -3, TOO_MANY = -4, NOT_POSSIBLE = -5, NONE = -6;
    static final int PATIENCE = 0, AWAY = 1;
    static final int HOME = 0, INSIDE = 1, OUTSIDE = 2, ON_HIKE = 3, LOST = 4;
    static final int RED = 0, BLUE = 1;
    /** What ofTroop() is asked for. */
    static final int SIZE = 0, COLOUR = 1, NEXT_SIZE = 2, COUNT_DOWN = 3, HIKES = 4, AT_HOME = 5, STRUCK = 10, WENT = 11;
    /** What of() is asked for. */
    static final int HOW = 0, MINUTES = 1, ITS_HIKES = 2, IS_STRUCK = 3;
    /** What count() is asked for. */
    static final int MINUTES_SO_FAR = 0, EARLY = 5, LENGTH_OF_PAD = 8, UNDOS = 9;

    private Scene() {
    }

    static ScoutGates troops(int... sizes) {
        ScoutGates gates = new ScoutGates();
        for (int size : sizes) {
            gates.troop(size);
        }
        return gates;
    }

    /** A troop of which these scouts are struck: lost for a minute, with a patience of 0. */
    static ScoutGates struck(int size, int... scouts) {
        ScoutGates gates = troops(size);
        gates.set(PATIENCE, 0);
        for (int scout : scouts) {
            gates.lose(0, scout);
        }
        gates.pass(1);
        return gates;
    }

    /** A troop of 16 who are all on a hike of 30 minutes, their first. */
    static ScoutGates sixteenOnAHike() {
        ScoutGates gates = troops(16);
        for (int scout = 0; scout < 16; scout++) {
            gates.come(0, scout, RED);
        }
        return gates;
    }

    /** Scouts of troop 0 come, one after the other; answers how often the gate opened. */
    static int come(ScoutGates gates, int colour, int... scouts) {
        int openings = 0;
        for (int scout : scouts) {
            openings += gates.come(0, scout, colour);
        }
        return openings;
    }

    static void pass(ScoutGates gates, int minutes) {
        for (int rest = minutes; rest > 0; rest -= 99) {
            gates.pass(Math.min(rest, 99));
        }
    }

    static int carryOut(ScoutGates gates, String text) {
        gates.wipe();
        Due.write(gates, text);
        return gates.carryOut();
    }

    /** How a scout of troop 0 is. */
    static int how(ScoutGates gates, int scout) {
        return gates.of(0, scout, HOW);
    }

    /** The set of the scouts of troop 0 who are so. */
    static int set(ScoutGates gates, int how) {
        return gates.ofTroop(0, AT_HOME + how);
    }

    /** All that can be asked without changing anything. */
    static String everything(ScoutGates gates) {
        StringBuilder all = new StringBuilder();
        for (int what = 0; what <= 9; what++) {
            all.append(gates.count(what)).append(' ');
        }
        all.append(gates.fault());
        for (int troop = 0; troop < 5; troop++) {
            all.append("\n");
            for (int what = 0; what <= 11; what++) {
                all.append(gates.ofTroop(troop, what)).append(' ');
            }
            all.append(gates.waitsFor(troop)).append(' ').append(gates.opensIn(troop)).append(' ');
            all.append(gates.couldHike(troop));
            for (int scout = 0; scout < 16; scout++) {
                all.append(" |");
                for (int what = 0; what <= 3; what++) {
                    all.append(' ').append(gates.of(troop, scout, what));
                }
                all.append(' ').append(gates.why(troop, scout, 0)).append(' ').append(gates.why(troop, scout, 1));
            }
        }
        return all.toString();
    }

    /** Whether two objects are the same in all that can be asked, in their histories and in their slots; spends them. */
    static boolean areTheSame(ScoutGates one, ScoutGates other) {
        for (int back = 0; back <= 7; back++) {
            if (!everything(one).equals(everything(other)) || one.undo() != other.undo()) {
                return false;
            }
        }
        for (int slot = 0; slot < 2; slot++) {
            if (one.restore(slot) != other.restore(slot) || !everything(one).equals(everything(other))) {
                return false;
            }
        }
        return one.wipe() == other.wipe();
    }
}
