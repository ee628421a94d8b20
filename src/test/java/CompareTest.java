import java.util.Random;

/** Asks ScoutGates and PlainGates the same, in many runs of calls drawn with fixed seeds. */
public final class CompareTest {
    private static final int RUNS = 4000, CALLS = 512;
    private static final int[] ODD = {-1, 5, 16, 17, 99, 100, 12, 10, Integer.MIN_VALUE, Integer.MAX_VALUE};
    private static final String SIGNS = "ncslt.=;rb0123456789 ~x";

    private final Random random;
    private final ScoutGates gates = new ScoutGates();
    private final PlainGates plain = new PlainGates();
    private final int run;
    private final int mostSize;
    private final int longest;

    private CompareTest(int run) {
        this.run = run;
        random = new Random(run);
        mostSize = run % 3 == 0 ? 16 : 1 + run % 5;
        longest = run % 4 == 0 ? 99 : 1 + run % 9;
    }

    public static void main(String[] args) {
        for (int run = 0; run < RUNS; run++) {
            new CompareTest(run).go();
        }
        Due.end();
    }

    private void go() {
        for (int i = 0; i < CALLS; i++) {
            call(i);
        }
    }

    /** Mostly a number below the bound, sometimes an odd one. */
    private int below(int bound) {
        return random.nextInt(40) == 0 ? ODD[random.nextInt(ODD.length)] : random.nextInt(bound);
    }

    private int troop() {
        return below(Math.max(1, plain.count(1)));
    }

    private int scout() {
        return below(random.nextInt(8) == 0 ? 17 : mostSize);
    }

    private int size() {
        return 1 + below(mostSize);
    }

    /** Mostly the colour that the troop has. */
    private int colour(int troop) {
        int now = Math.max(0, plain.ofTroop(troop, 1));
        return random.nextInt(4) == 0 ? below(2) : now;
    }

    private void call(int i) {
        int kind = i < 2 ? 1 : random.nextInt(100);
        int a = troop();
        int b = scout();
        int c = colour(a);
        String at = "run " + run + " call " + i + " ";
        if (kind < 2) {
            int size = size();
            Due.is(at + "troop(" + size + ")", gates.troop(size), plain.troop(size));
        } else if (kind < 8) {
            int size = size();
            Due.is(at + "resize(" + a + ", " + size + ")", gates.resize(a, size), plain.resize(a, size));
        } else if (kind < 45) {
            Due.is(at + "come(" + a + ", " + b + ", " + c + ")", gates.come(a, b, c), plain.come(a, b, c));
        } else if (kind < 53) {
            Due.is(at + "lose(" + a + ", " + b + ")", gates.lose(a, b), plain.lose(a, b));
        } else if (kind < 57) {
            Due.is(at + "find(" + a + ", " + b + ")", gates.find(a, b), plain.find(a, b));
        } else if (kind < 66) {
            int minutes = 1 + below(longest);
            Due.is(at + "pass(" + minutes + ")", gates.pass(minutes), plain.pass(minutes));
        } else if (kind < 69) {
            int setting = below(2);
            int value = random.nextInt(3) == 0 ? below(101) : below(6);
            Due.is(at + "set(" + setting + ", " + value + ")", gates.set(setting, value), plain.set(setting, value));
        } else if (kind < 80) {
            question(at, a, b);
        } else if (kind < 90) {
            text(at);
        } else if (kind < 94) {
            Due.is(at + "undo()", gates.undo(), plain.undo());
        } else if (kind < 96) {
            int slot = below(2);
            Due.is(at + "save(" + slot + ")", gates.save(slot), plain.save(slot));
        } else if (kind < 97) {
            int slot = below(2);
            Due.is(at + "restore(" + slot + ")", gates.restore(slot), plain.restore(slot));
        } else {
            everything(at);
        }
    }

    private void question(String at, int a, int b) {
        int what = below(12);
        int colour = below(2);
        switch (random.nextInt(7)) {
            case 0: Due.is(at + "ofTroop(" + a + ", " + what + ")", gates.ofTroop(a, what), plain.ofTroop(a, what)); break;
            case 1: Due.is(at + "of(" + a + ", " + b + ", " + what + ")", gates.of(a, b, what), plain.of(a, b, what)); break;
            case 2: Due.is(at + "count(" + what + ")", gates.count(what), plain.count(what)); break;
            case 3: Due.is(at + "why(" + a + ", " + b + ", " + colour + ")", gates.why(a, b, colour), plain.why(a, b, colour)); break;
            case 4: Due.is(at + "waitsFor(" + a + ")", gates.waitsFor(a), plain.waitsFor(a)); break;
            case 5: Due.is(at + "opensIn(" + a + ")", gates.opensIn(a), plain.opensIn(a)); break;
            default: Due.is(at + "couldHike(" + a + ")", gates.couldHike(a), plain.couldHike(a)); break;
        }
    }

    private void text(String at) {
        switch (random.nextInt(10)) {
            case 0:
                Due.is(at + "wipe()", gates.wipe(), plain.wipe());
                break;
            case 1:
                long any = random.nextLong() >>> random.nextInt(64);
                Due.is(at + "put(" + any + ")", gates.put(any), plain.put(any));
                break;
            case 2:
            case 3:
                Due.is(at + "fault()", gates.fault(), plain.fault());
                break;
            case 4:
            case 5:
                Due.is(at + "carryOut()", gates.carryOut(), plain.carryOut());
                break;
            default:
                write(at);
                break;
        }
        Due.is(at + "fault() behind", gates.fault(), plain.fault());
    }

    private void write(String at) {
        StringBuilder text = new StringBuilder();
        if (random.nextInt(6) == 0) {
            for (int i = random.nextInt(8); i >= 0; i--) {
                text.append(SIGNS.charAt(random.nextInt(SIGNS.length())));
            }
        } else {
            for (int i = random.nextInt(4); i >= 0; i--) {
                text.append(text.length() > 0 || plain.count(8) > 0 ? ";" : "").append(order());
            }
        }
        for (long piece : Due.pieces(text.toString())) {
            Due.is(at + "put(" + piece + ")", gates.put(piece), plain.put(piece));
        }
    }

    private String order() {
        int a = random.nextInt(Math.max(1, plain.count(1)) + (random.nextInt(9) == 0 ? 1 : 0));
        int b = random.nextInt(mostSize);
        int number = random.nextInt(9) == 0 ? random.nextInt(120) : 1 + random.nextInt(mostSize);
        switch (random.nextInt(10)) {
            case 0: return "n" + number;
            case 1: return "l" + a + "." + b;
            case 2: return "s" + a + "=" + number;
            case 3: return "t" + number;
            default: return "c" + a + "." + b + (colour(a) == 0 ? "r" : "b");
        }
    }

    private void everything(String at) {
        for (int what = -1; what <= 10; what++) {
            Due.is(at + "count(" + what + ")", gates.count(what), plain.count(what));
        }
        for (int t = -1; t <= plain.count(1); t++) {
            for (int what = -1; what <= 12; what++) {
                Due.is(at + "ofTroop(" + t + ", " + what + ")", gates.ofTroop(t, what), plain.ofTroop(t, what));
            }
            for (int s = -1; s <= 16; s++) {
                for (int what = -1; what <= 4; what++) {
                    Due.is(at + "of(" + t + ", " + s + ", " + what + ")", gates.of(t, s, what), plain.of(t, s, what));
                }
                Due.is(at + "why(" + t + ", " + s + ", 0)", gates.why(t, s, 0), plain.why(t, s, 0));
                Due.is(at + "why(" + t + ", " + s + ", 1)", gates.why(t, s, 1), plain.why(t, s, 1));
            }
            Due.is(at + "waitsFor(" + t + ")", gates.waitsFor(t), plain.waitsFor(t));
            Due.is(at + "opensIn(" + t + ")", gates.opensIn(t), plain.opensIn(t));
            Due.is(at + "couldHike(" + t + ")", gates.couldHike(t), plain.couldHike(t));
        }
    }
}
