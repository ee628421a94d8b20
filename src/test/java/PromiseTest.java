/** Every promise of ../shared/DOC.md by its number: ordinary inputs, its edges, and wrong inputs. */
public final class PromiseTest {
    private static final int NO_SUCH = -1, BAD_VALUE = -2, BAD_TEXT = -3, TOO_MANY = -4, NOT_POSSIBLE = -5, NONE = -6;
    private static final int HOME = 0, INSIDE = 1, OUTSIDE = 2, ON_HIKE = 3, LOST = 4;

    public static void main(String[] args) {
        promise1NewObject();
        promise2Set();
        promise3Troop();
        promise3NothingIsLeftOfATroopBefore();
        promise4Resize();
        promise4ScoutsBelowAndAboveTheSize();
        promise4SizeIsAboveAgainDuringAHike();
        promise4HikesOfOneWhoIsNone();
        promise5Come();
        promise5OpensTwice();
        promise5LostAndStruckOnesCome();
        promise6Lose();
        promise7Find();
        promise8Pass();
        promise8HikesEnd();
        promise8StruckOnes();
        promise8Bound();
        promise9OfTroop();
        promise10Of();
        promise11Count();
        promise12Why();
        promise13WaitsFor();
        promise14OpensIn();
        promise15CouldHike();
        promise16Put();
        promise17Wipe();
        promise18Fault();
        promise19CarryOut();
        promise20Undo();
        promise20WhatIsRecorded();
        promise20EachChangeIsUndone();
        promise21Save();
        promise22Restore();
        Due.end();
    }

    private static ScoutGates withTroops(int... sizes) {
        ScoutGates gates = new ScoutGates();
        for (int size : sizes) {
            gates.troop(size);
        }
        return gates;
    }

    private static void promise1NewObject() {
        ScoutGates x = new ScoutGates();
        int[] counts = {0, 0, 0, 0, 0, 0, 20, 30, 0, 0};
        for (int what = 0; what < counts.length; what++) {
            Due.is("1: count(" + what + ")", x.count(what), counts[what]);
        }
        Due.is("1: ofTroop", x.ofTroop(0, 0), NO_SUCH);
        Due.is("1: of", x.of(0, 0, 0), NO_SUCH);
        Due.is("1: undo", x.undo(), NOT_POSSIBLE);
        Due.is("1: fault", x.fault(), 0);
        Due.is("1: restore", x.restore(0), NOT_POSSIBLE);
        ScoutGates other = withTroops(1);
        Due.is("1: another object is on its own", x.count(1) + 10 * other.count(1), 10);
    }

    private static void promise2Set() {
        ScoutGates x = withTroops(1, 1);
        Due.is("2: first patience", x.set(ScoutGates.PATIENCE, 0), 20);
        Due.is("2: least patience", x.set(ScoutGates.PATIENCE, 99), 0);
        Due.is("2: most patience", x.set(ScoutGates.PATIENCE, 5), 99);
        Due.is("2: first away", x.set(ScoutGates.AWAY, 1), 30);
        Due.is("2: least away", x.set(ScoutGates.AWAY, 99), 1);
        Due.is("2: most away", x.set(ScoutGates.AWAY, 7), 99);
        int before = x.count(9);
        Due.is("2: patience below", x.set(0, -1), BAD_VALUE);
        Due.is("2: patience above", x.set(0, 100), BAD_VALUE);
        Due.is("2: away below", x.set(1, 0), BAD_VALUE);
        Due.is("2: away above", x.set(1, 100), BAD_VALUE);
        Due.is("2: no setting -1", x.set(-1, 5), BAD_VALUE);
        Due.is("2: no setting 2", x.set(2, 5), BAD_VALUE);
        Due.is("2: patience stays", x.count(6), 5);
        Due.is("2: away stays", x.count(7), 7);
        Due.is("2: errors record nothing", x.count(9), before);
        x.come(0, 0, 0);
        x.set(1, 3);
        Due.is("2: a hike lasts as it began", x.of(0, 0, 1), 7);
        x.come(1, 0, 0);
        x.pass(3);
        Due.is("2: the new hike is over", x.of(1, 0, 0), HOME);
        x.pass(3);
        Due.is("2: the old one is not", x.of(0, 0, 1), 1);
        x.pass(1);
        Due.is("2: now it is", x.of(0, 0, 0), HOME);
    }

    private static void promise3Troop() {
        ScoutGates x = new ScoutGates();
        Due.is("3: size 0", x.troop(0), BAD_VALUE);
        Due.is("3: size 17", x.troop(17), BAD_VALUE);
        Due.is("3: size -1", x.troop(-1), BAD_VALUE);
        Due.is("3: size least int", x.troop(Integer.MIN_VALUE), BAD_VALUE);
        int[] sizes = {1, 16, 2, 3, 4};
        for (int i = 0; i < sizes.length; i++) {
            Due.is("3: troop", x.troop(sizes[i]), i);
            Due.is("3: size", x.ofTroop(i, 0), sizes[i]);
            Due.is("3: colour", x.ofTroop(i, 1), 0);
            Due.is("3: next size", x.ofTroop(i, 2), sizes[i]);
            Due.is("3: all at home", x.ofTroop(i, 5), (1 << sizes[i]) - 1);
        }
        Due.is("3: a sixth", x.troop(1), TOO_MANY);
        Due.is("3: a bad sixth", x.troop(0), BAD_VALUE);
        Due.is("3: five", x.count(1), 5);
        x.come(0, 0, 0);
        for (int i = 5; i >= 0; i--) {
            Due.is("3: undo", x.undo(), i);
        }
        Due.is("3: troops are undone", x.count(1), 0);
        Due.is("3: a troop comes anew", x.troop(2), 0);
        Due.is("3: nobody has hiked yet", x.ofTroop(0, 4) + x.ofTroop(0, 8) + x.of(0, 0, 2), 0);
    }

    private static void promise3NothingIsLeftOfATroopBefore() {
        ScoutGates x = new ScoutGates();
        x.set(0, 0);
        x.save(0);
        x.troop(4);
        for (int scout = 0; scout < 4; scout++) {
            x.come(0, scout, 0);
        }
        x.pass(30);
        x.lose(0, 1);
        x.lose(0, 3);
        x.pass(1);
        x.come(0, 0, 1);
        Due.is("3: opens for fewer", x.come(0, 2, 1), 1);
        x.pass(29);
        x.come(0, 1, 1);
        x.save(1);
        x.restore(0);
        Due.is("3: a troop in its place", x.troop(4), 0);
        int[] due = {4, 0, 4, 4, 0, 15, 0, 0, 0, 0, 0, 0};
        for (int what = 0; what < due.length; what++) {
            Due.is("3: ofTroop(0, " + what + ") of it", x.ofTroop(0, what), due[what]);
        }
        for (int scout = 0; scout < 4; scout++) {
            for (int what = 0; what < 4; what++) {
                Due.is("3: of(0, " + scout + ", " + what + ") of it", x.of(0, scout, what), 0);
            }
        }
        x.restore(1);
        x.come(0, 0, 1);
        x.restore(0);
        x.troop(4);
        Due.is("3: nobody is outside, lost or on a hike", x.ofTroop(0, 5), 15);
        x.restore(0);
        x.troop(1);
        x.troop(2);
        x.come(0, 0, 0);
        x.come(1, 0, 0);
        x.restore(0);
        x.troop(1);
        x.troop(2);
        Due.is("3: the colour is 0, nobody is inside", x.ofTroop(0, 1) * 10 + x.ofTroop(1, 6), 0);
    }

    private static void promise4Resize() {
        ScoutGates x = withTroops(2);
        Due.is("4: no troop 1", x.resize(1, 2), NO_SUCH);
        Due.is("4: no troop -1", x.resize(-1, 0), NO_SUCH);
        Due.is("4: size 0", x.resize(0, 0), BAD_VALUE);
        Due.is("4: size 17", x.resize(0, 17), BAD_VALUE);
        Due.is("4: errors record nothing", x.count(9), 1);
        Due.is("4: resize", x.resize(0, 16), 2);
        Due.is("4: again", x.resize(0, 1), 16);
        Due.is("4: to the same", x.resize(0, 1), 1);
        Due.is("4: the size is as before", x.ofTroop(0, 0), 2);
        Due.is("4: for the next hike", x.ofTroop(0, 2), 1);
        x.resize(0, 4);
        x.come(0, 0, 0);
        Due.is("4: opens", x.come(0, 1, 0), 1);
        Due.is("4: the size is new", x.ofTroop(0, 0), 4);
        Due.is("4: new ones at home", x.ofTroop(0, 5), 0b1100);
        Due.is("4: new ones are counted", x.ofTroop(0, 3), 4);
    }

    private static void promise4ScoutsBelowAndAboveTheSize() {
        ScoutGates x = withTroops(4);
        x.set(0, 0);
        x.lose(0, 2);
        x.lose(0, 3);
        x.pass(1);
        x.find(0, 3);
        x.come(0, 3, 1);
        x.resize(0, 1);
        x.come(0, 0, 0);
        Due.is("4: opens for fewer", x.come(0, 1, 0), 1);
        Due.is("4: shrunk", x.ofTroop(0, 0), 1);
        Due.is("4: lost one is none", x.of(0, 2, 0) * 10 + x.count(4), -10);
        Due.is("4: outside one is none", x.of(0, 3, 0) * 100 + x.ofTroop(0, 7) + x.ofTroop(0, 6), -100);
        Due.is("4: one on a hike is known to of()", x.of(0, 1, 0), ON_HIKE);
        Due.is("4: and to the set", x.ofTroop(0, 8), 0b11);
        Due.is("4: and to the number", x.count(3), 2);
        Due.is("4: it cannot come", x.come(0, 1, 1), NO_SUCH);
        Due.is("4: nor be lost", x.lose(0, 1), NO_SUCH);
        Due.is("4: nor found", x.find(0, 1), NO_SUCH);
        Due.is("4: nor asked why", x.why(0, 1, 1), NO_SUCH);
        Due.is("4: it is not waited for", x.waitsFor(0), 1);
        x.pass(30);
        Due.is("4: home it is none", x.of(0, 1, 0), NO_SUCH);
        Due.is("4: and in no set", x.ofTroop(0, 5), 1);
        x.resize(0, 4);
        Due.is("4: opens again", x.come(0, 0, 1), 1);
        Due.is("4: anew, at home", x.of(0, 1, 0), HOME);
        Due.is("4: anew, without hikes", x.of(0, 1, 2), 0);
        Due.is("4: the old one keeps its hikes", x.of(0, 0, 2), 2);
        Due.is("4: anew, not outside", x.of(0, 3, 0), HOME);
        Due.is("4: anew, not lost", x.of(0, 2, 1), 0);
    }

    private static void promise4HikesOfOneWhoIsNone() {
        ScoutGates x = withTroops(2);
        x.set(0, 0);
        x.come(0, 0, 0);
        x.come(0, 1, 0);
        x.pass(30);
        x.lose(0, 1);
        x.pass(1);
        x.resize(0, 1);
        Due.is("4: opens for fewer, and fewer there are", x.come(0, 0, 1) * 10 + x.of(0, 1, 2), 10 + NO_SUCH);
        x.pass(30);
        x.resize(0, 2);
        Due.is("4: opens, and it is anew", x.come(0, 0, 0) * 10 + x.of(0, 1, 0), 10);
        Due.is("4: its hikes and minutes are not of before", x.of(0, 1, 2) * 10 + x.of(0, 1, 1), 0);
    }

    private static void promise4SizeIsAboveAgainDuringAHike() {
        ScoutGates x = withTroops(2);
        x.set(0, 0);
        x.lose(0, 0);
        x.pass(1);
        x.set(1, 50);
        x.resize(0, 1);
        Due.is("4: goes for long", x.come(0, 1, 0), 1);
        Due.is("4: on a hike, none", x.why(0, 1, 0), NO_SUCH);
        x.set(1, 1);
        x.resize(0, 2);
        Due.is("4: opens in the meantime", x.come(0, 0, 1), 1);
        Due.is("4: a scout again, on the hike", x.why(0, 1, 0), 1);
        Due.is("4: waited for again", x.waitsFor(0), 3);
        x.pass(49);
        Due.is("4: on the hike to its end", x.of(0, 1, 1), 1);
        x.pass(1);
        Due.is("4: comes home", x.of(0, 1, 0), HOME);
        Due.is("4: with its hikes", x.of(0, 1, 2), 1);
    }

    private static void promise5Come() {
        ScoutGates x = withTroops(2, 1);
        Due.is("5: no troop 2", x.come(2, 0, 0), NO_SUCH);
        Due.is("5: no troop -1", x.come(-1, 0, 0), NO_SUCH);
        Due.is("5: no scout 2", x.come(0, 2, 0), NO_SUCH);
        Due.is("5: no scout -1", x.come(0, -1, 0), NO_SUCH);
        Due.is("5: no scout, no colour", x.come(0, 99, 9), NO_SUCH);
        Due.is("5: colour 2", x.come(0, 0, 2), BAD_VALUE);
        Due.is("5: colour -1", x.come(0, 0, -1), BAD_VALUE);
        Due.is("5: inside", x.come(0, 0, 0), 0);
        Due.is("5: it is inside", x.of(0, 0, 0), INSIDE);
        Due.is("5: inside already", x.come(0, 0, 1), NOT_POSSIBLE);
        Due.is("5: the colour is looked at first", x.come(0, 0, 2), BAD_VALUE);
        Due.is("5: outside", x.come(0, 1, 1), 0);
        Due.is("5: it is outside", x.of(0, 1, 0), OUTSIDE);
        Due.is("5: outside already", x.come(0, 1, 0), NOT_POSSIBLE);
        Due.is("5: early", x.count(5), 1);
        Due.is("5: errors and comings", x.count(9), 4);
        Due.is("5: the other troop opens", x.come(1, 0, 0), 1);
        Due.is("5: its colour turns", x.ofTroop(1, 1), 1);
        Due.is("5: it is on a hike", x.come(1, 0, 1), NOT_POSSIBLE);
        x.pass(30);
        Due.is("5: opens again", x.come(1, 0, 1), 1);
        Due.is("5: the colour turns back", x.ofTroop(1, 1), 0);
        Due.is("5: the first troop still waits", x.ofTroop(0, 1) * 10 + x.ofTroop(0, 3), 1);
    }

    private static void promise5OpensTwice() {
        ScoutGates x = withTroops(2);
        x.set(0, 0);
        x.set(1, 10);
        x.lose(0, 0);
        x.pass(1);
        x.come(0, 0, 1);
        Due.is("5: struck and outside", x.of(0, 0, 3) * 10 + x.of(0, 0, 0), 12);
        x.resize(0, 1);
        Due.is("5: opens twice", x.come(0, 1, 0), 2);
        Due.is("5: the colour turned twice", x.ofTroop(0, 1), 0);
        Due.is("5: two hikes", x.ofTroop(0, 4), 2);
        Due.is("5: two went", x.ofTroop(0, 11), 2);
        Due.is("5: both are away", x.ofTroop(0, 8), 3);
        Due.is("5: nobody is inside", x.ofTroop(0, 6), 0);
        Due.is("5: nobody is struck", x.ofTroop(0, 10), 0);

        ScoutGates y = withTroops(2);
        y.set(0, 0);
        y.lose(0, 0);
        y.pass(1);
        y.come(0, 0, 1);
        Due.is("5: opens once where the size stays", y.come(0, 1, 0), 1);
        Due.is("5: who was outside is inside", y.ofTroop(0, 6), 1);
        Due.is("5: and counted", y.ofTroop(0, 3), 1);
        y.pass(30);
        Due.is("5: the last one comes", y.come(0, 1, 1), 1);
    }

    private static void promise5LostAndStruckOnesCome() {
        ScoutGates x = withTroops(3);
        x.set(0, 1);
        x.lose(0, 0);
        x.pass(2);
        Due.is("5: struck", x.ofTroop(0, 10), 1);
        Due.is("5: a lost one comes", x.come(0, 0, 0), 0);
        Due.is("5: it is found", x.of(0, 0, 0) * 10 + x.of(0, 0, 1), 10);
        Due.is("5: it stays struck", x.of(0, 0, 3), 1);
        Due.is("5: counted once", x.ofTroop(0, 3), 2);
        Due.is("5: lost again", x.lose(0, 0), 2);
        Due.is("5: for no time", x.of(0, 0, 1), 0);
        x.come(0, 0, 0);
        x.come(0, 1, 0);
        Due.is("5: opens", x.come(0, 2, 0), 1);
        Due.is("5: nobody is struck any more", x.ofTroop(0, 10), 0);
        Due.is("5: it went too", x.ofTroop(0, 8), 7);

        ScoutGates y = withTroops(1);
        y.set(0, 0);
        y.lose(0, 0);
        y.pass(1);
        Due.is("5: nobody inside, so it stays shut", y.ofTroop(0, 3) * 10 + y.ofTroop(0, 4), 0);
        Due.is("5: outside does not open", y.come(0, 0, 1), 0);
    }

    private static void promise6Lose() {
        ScoutGates x = withTroops(3, 1);
        Due.is("6: no troop", x.lose(2, 0), NO_SUCH);
        Due.is("6: no troop -1", x.lose(-1, 0), NO_SUCH);
        Due.is("6: no scout", x.lose(0, 3), NO_SUCH);
        Due.is("6: no scout -1", x.lose(0, -1), NO_SUCH);
        Due.is("6: from home", x.lose(0, 0), 3);
        Due.is("6: lost", x.of(0, 0, 0) * 10 + x.of(0, 0, 1), 40);
        Due.is("6: lost already", x.lose(0, 0), NOT_POSSIBLE);
        x.come(0, 1, 0);
        Due.is("6: from inside", x.lose(0, 1), 3);
        Due.is("6: nobody is inside", x.ofTroop(0, 6), 0);
        x.come(0, 2, 1);
        Due.is("6: from outside", x.lose(0, 2), 3);
        Due.is("6: nobody is outside", x.ofTroop(0, 7), 0);
        Due.is("6: all lost", x.ofTroop(0, 9), 7);
        x.come(1, 0, 0);
        Due.is("6: from a hike", x.lose(1, 0), NOT_POSSIBLE);
        x.pass(21);
        x.find(0, 0);
        Due.is("6: a struck one is not counted", x.lose(0, 0), 0);
    }

    private static void promise7Find() {
        ScoutGates x = withTroops(2);
        Due.is("7: no troop", x.find(1, 0), NO_SUCH);
        Due.is("7: no troop -1", x.find(-1, 0), NO_SUCH);
        Due.is("7: no scout", x.find(0, 2), NO_SUCH);
        Due.is("7: no scout -1", x.find(0, -1), NO_SUCH);
        Due.is("7: at home", x.find(0, 0), NOT_POSSIBLE);
        x.lose(0, 0);
        Due.is("7: at once", x.find(0, 0), 0);
        Due.is("7: at home again", x.of(0, 0, 0), HOME);
        Due.is("7: found already", x.find(0, 0), NOT_POSSIBLE);
        x.lose(0, 0);
        x.pass(20);
        Due.is("7: behind 20 minutes", x.find(0, 0), 20);
        Due.is("7: not struck", x.of(0, 0, 3), 0);
        x.lose(0, 0);
        x.pass(21);
        Due.is("7: behind 21 minutes", x.find(0, 0), 21);
        Due.is("7: no minutes any more", x.of(0, 0, 1), 0);
        Due.is("7: stays struck", x.of(0, 0, 3), 1);
        Due.is("7: is not waited for", x.waitsFor(0), 2);
        x.come(0, 0, 0);
        Due.is("7: inside", x.find(0, 0), NOT_POSSIBLE);
        Due.is("7: the gate opens", x.come(0, 1, 0), 1);
        Due.is("7: on a hike", x.find(0, 0), NOT_POSSIBLE);
        Due.is("7: struck no more", x.of(0, 0, 3), 0);
    }

    private static void promise8Pass() {
        ScoutGates x = withTroops(2, 2);
        Due.is("8: 0 minutes", x.pass(0), BAD_VALUE);
        Due.is("8: 100 minutes", x.pass(100), BAD_VALUE);
        Due.is("8: -1 minutes", x.pass(-1), BAD_VALUE);
        Due.is("8: most int minutes", x.pass(Integer.MAX_VALUE), BAD_VALUE);
        Due.is("8: 1 minute", x.pass(1), 0);
        Due.is("8: 99 minutes", x.pass(99), 0);
        Due.is("8: so far", x.count(0), 100);
        x.come(0, 0, 0);
        x.come(1, 1, 0);
        x.lose(0, 1);
        x.pass(3);
        x.lose(1, 0);
        Due.is("8: both gates open", x.pass(99), 2);
        Due.is("8: both colours turned", x.ofTroop(0, 1) * 10 + x.ofTroop(1, 1), 11);
    }

    private static void promise8HikesEnd() {
        ScoutGates x = withTroops(1);
        x.set(1, 2);
        x.come(0, 0, 0);
        x.pass(1);
        Due.is("8: still on the hike", x.of(0, 0, 0) * 10 + x.of(0, 0, 1), 31);
        x.pass(1);
        Due.is("8: home", x.of(0, 0, 0) * 10 + x.of(0, 0, 1), 0);
        Due.is("8: its hikes", x.of(0, 0, 2), 1);

        // A hike that begins in a minute's end has all its minutes before it.
        ScoutGates y = withTroops(2);
        y.set(0, 0);
        y.set(1, 1);
        y.come(0, 0, 0);
        y.lose(0, 1);
        Due.is("8: opens in a minute", y.pass(1), 1);
        Due.is("8: one minute to go", y.of(0, 0, 1), 1);
        y.pass(1);
        Due.is("8: home behind it", y.of(0, 0, 0), HOME);
    }

    private static void promise8StruckOnes() {
        ScoutGates x = withTroops(3);
        x.set(0, 2);
        x.lose(0, 0);
        x.pass(2);
        Due.is("8: as long as the patience", x.of(0, 0, 3), 0);
        x.pass(1);
        Due.is("8: longer", x.of(0, 0, 3), 1);
        Due.is("8: count down", x.ofTroop(0, 3), 2);
        x.set(0, 99);
        x.pass(1);
        Due.is("8: stays struck", x.of(0, 0, 3), 1);
        x.set(0, 2);
        x.come(0, 1, 0);
        Due.is("8: opens for fewer", x.come(0, 2, 0), 1);
        Due.is("8: not struck behind it", x.of(0, 0, 3), 0);
        Due.is("8: still lost", x.of(0, 0, 0) * 10 + x.of(0, 0, 1), 44);
        x.pass(1);
        Due.is("8: struck again in the next minute", x.of(0, 0, 3) * 10 + x.of(0, 0, 1), 15);
        x.set(0, 0);
        x.pass(99);
        Due.is("8: opens only if somebody is inside", x.ofTroop(0, 4), 1);
        Due.is("8: who is home is waited for", x.waitsFor(0), 6);
    }

    private static void promise8Bound() {
        ScoutGates x = withTroops(1);
        for (int i = 0; i < 101; i++) {
            x.pass(99);
        }
        Due.is("8: 9999 minutes", x.count(0), 9999);
        Due.is("8: one more", x.pass(1), NOT_POSSIBLE);
        Due.is("8: a bad one more", x.pass(0), BAD_VALUE);
        x.undo();
        x.pass(98);
        Due.is("8: two more", x.pass(2), NOT_POSSIBLE);
        Due.is("8: nothing passed", x.count(0), 9998);
        Due.is("8: the last one", x.pass(1), 0);
    }

    private static void promise9OfTroop() {
        ScoutGates x = withTroops(6, 2);
        x.set(0, 3);
        x.come(0, 0, 0);
        x.come(0, 1, 1);
        x.lose(0, 2);
        x.pass(4);
        x.lose(0, 3);
        x.resize(0, 9);
        int[] due = {6, 0, 9, 4, 0, 0b110000, 0b1, 0b10, 0, 0b1100, 0b100, 0};
        for (int what = 0; what < due.length; what++) {
            Due.is("9: ofTroop(0, " + what + ")", x.ofTroop(0, what), due[what]);
        }
        x.come(0, 4, 0);
        x.come(0, 5, 0);
        x.lose(0, 1);
        x.resize(0, 5);
        Due.is("9: opens", x.pass(4), 1);
        int[] behind = {5, 1, 5, 5, 1, 0, 0, 0, 0b110001, 0b1110, 0, 3};
        for (int what = 0; what < behind.length; what++) {
            Due.is("9: behind, ofTroop(0, " + what + ")", x.ofTroop(0, what), behind[what]);
        }
        Due.is("9: the other troop", x.ofTroop(1, 4) + x.ofTroop(1, 11), 0);
        Due.is("9: what -1", x.ofTroop(0, -1), BAD_VALUE);
        Due.is("9: what 12", x.ofTroop(0, 12), BAD_VALUE);
        Due.is("9: no troop", x.ofTroop(2, 0), NO_SUCH);
        Due.is("9: no troop -1, no what", x.ofTroop(-1, 99), NO_SUCH);
    }

    private static void promise10Of() {
        ScoutGates x = withTroops(5);
        x.set(0, 1);
        x.come(0, 0, 0);
        x.come(0, 1, 1);
        x.lose(0, 2);
        x.pass(2);
        x.lose(0, 3);
        int[][] due = {{INSIDE, 0, 0, 0}, {OUTSIDE, 0, 0, 0}, {LOST, 2, 0, 1}, {LOST, 0, 0, 0}, {HOME, 0, 0, 0}};
        for (int scout = 0; scout < due.length; scout++) {
            for (int what = 0; what < 4; what++) {
                Due.is("10: of(0, " + scout + ", " + what + ")", x.of(0, scout, what), due[scout][what]);
            }
        }
        Due.is("10: what -1", x.of(0, 0, -1), BAD_VALUE);
        Due.is("10: what 4", x.of(0, 0, 4), BAD_VALUE);
        Due.is("10: no scout", x.of(0, 5, 0), NO_SUCH);
        Due.is("10: no scout -1", x.of(0, -1, 9), NO_SUCH);
        Due.is("10: no scout 16", x.of(0, 16, 0), NO_SUCH);
        Due.is("10: no scout 32", x.of(0, 32, 0), NO_SUCH);
        Due.is("10: no troop", x.of(1, 0, 0), NO_SUCH);
        Due.is("10: no troop -1", x.of(-1, 0, 0), NO_SUCH);

        ScoutGates y = withTroops(16);
        for (int scout = 0; scout < 16; scout++) {
            y.come(0, scout, 0);
        }
        y.resize(0, 1);
        Due.is("10: the last of 16", y.of(0, 15, 0) * 1000 + y.of(0, 15, 1) * 10 + y.of(0, 15, 2), 3301);
        y.pass(30);
        y.come(0, 0, 1);
        Due.is("10: not below the next size, at home", y.of(0, 15, 0), HOME);
        for (int scout = 1; scout < 16; scout++) {
            y.come(0, scout, 1);
        }
        Due.is("10: on a hike, but none", y.of(0, 15, 0) * 1000 + y.of(0, 15, 1) * 10 + y.of(0, 15, 2), 3302);
        Due.is("10: none, what 4", y.of(0, 15, 4), BAD_VALUE);
        Due.is("10: all are on hikes", y.ofTroop(0, 8), 0xFFFF);
        y.pass(30);
        Due.is("10: none", y.of(0, 15, 0), NO_SUCH);
    }

    private static void promise11Count() {
        ScoutGates x = withTroops(2, 1);
        x.set(0, 7);
        x.set(1, 8);
        x.come(1, 0, 0);
        x.lose(0, 0);
        x.come(0, 1, 1);
        x.come(0, 0, 1);
        x.lose(0, 1);
        x.pass(3);
        x.put('n');
        int[] due = {3, 2, 1, 1, 1, 2, 7, 8, 1, 6};
        for (int what = 0; what < due.length; what++) {
            Due.is("11: count(" + what + ")", x.count(what), due[what]);
        }
        Due.is("11: count(-1)", x.count(-1), BAD_VALUE);
        Due.is("11: count(10)", x.count(10), BAD_VALUE);

        ScoutGates y = withTroops(1, 2);
        y.come(0, 0, 0);
        y.resize(1, 1);
        y.come(1, 1, 0);
        y.come(1, 0, 0);
        Due.is("11: hikes of all troops", y.count(2), 2);
        Due.is("11: on hikes, with one who is none", y.count(3), 3);
        y.pass(30);
        Due.is("11: hikes stay", y.count(2) * 10 + y.count(3), 20);
    }

    private static void promise12Why() {
        ScoutGates x = withTroops(4, 1);
        x.come(0, 1, 0);
        x.come(0, 2, 1);
        x.lose(0, 3);
        x.come(1, 0, 0);
        Due.is("12: from home, inside", x.why(0, 0, 0), 0);
        Due.is("12: from home, outside", x.why(0, 0, 1), 4);
        Due.is("12: lost, inside", x.why(0, 3, 0), 0);
        Due.is("12: lost, outside", x.why(0, 3, 1), 4);
        Due.is("12: is inside", x.why(0, 1, 1), 2);
        Due.is("12: is outside", x.why(0, 2, 0), 3);
        Due.is("12: is on a hike", x.why(1, 0, 1), 1);
        x.pass(30);
        Due.is("12: the colour has turned", x.why(1, 0, 1) * 10 + x.why(1, 0, 0), 4);
        Due.is("12: colour 2", x.why(0, 0, 2), BAD_VALUE);
        Due.is("12: colour -1", x.why(0, 1, -1), BAD_VALUE);
        Due.is("12: no scout", x.why(0, 4, 2), NO_SUCH);
        Due.is("12: no scout -1", x.why(0, -1, 0), NO_SUCH);
        Due.is("12: no troop", x.why(2, 0, 0), NO_SUCH);
        Due.is("12: no troop -1", x.why(-1, 0, 0), NO_SUCH);
        Due.is("12: nothing changes", x.count(9), 6);
    }

    private static void promise13WaitsFor() {
        ScoutGates x = withTroops(16, 3);
        Due.is("13: for all", x.waitsFor(0), 0xFFFF);
        x.set(0, 0);
        x.come(1, 0, 0);
        Due.is("13: not for who is inside", x.waitsFor(1), 6);
        x.come(1, 1, 1);
        Due.is("13: for who is outside", x.waitsFor(1), 6);
        x.lose(1, 2);
        Due.is("13: for a lost one", x.waitsFor(1), 6);
        x.pass(1);
        Due.is("13: not for a struck one", x.waitsFor(1), 2);
        Due.is("13: no troop", x.waitsFor(2), NO_SUCH);
        Due.is("13: no troop -1", x.waitsFor(-1), NO_SUCH);
        x.lose(1, 1);
        x.pass(1);
        Due.is("13: for those on a hike", x.waitsFor(1), 7);
    }

    private static void promise14OpensIn() {
        ScoutGates x = withTroops(2);
        Due.is("14: no troop", x.opensIn(1), NO_SUCH);
        Due.is("14: no troop -1", x.opensIn(-1), NO_SUCH);
        Due.is("14: never", x.opensIn(0), NONE);
        x.come(0, 0, 0);
        Due.is("14: waits for who is home", x.opensIn(0), NONE);
        x.lose(0, 1);
        Due.is("14: behind the patience", x.opensIn(0), 21);
        x.set(0, 99);
        Due.is("14: behind more patience", x.opensIn(0), 100);
        x.pass(99);
        Due.is("14: in the next minute", x.opensIn(0), 1);
        Due.is("14: nothing changes", x.of(0, 1, 1), 99);
        Due.is("14: so it is", x.pass(1), 1);
        Due.is("14: nobody is inside", x.opensIn(0), NONE);

        ScoutGates y = withTroops(1, 2);
        y.come(1, 0, 0);
        for (int i = 0; i < 101; i++) {
            y.pass(99);
        }
        y.lose(1, 1);
        Due.is("14: beyond the bound of minutes", y.opensIn(1), 21);
        Due.is("14: which does matter to pass()", y.pass(21), NOT_POSSIBLE);
    }

    private static void promise15CouldHike() {
        ScoutGates x = withTroops(3, 1);
        Due.is("15: no troop", x.couldHike(2), NO_SUCH);
        Due.is("15: no troop -1", x.couldHike(-1), NO_SUCH);
        Due.is("15: all come", x.couldHike(0), 1);
        x.lose(0, 2);
        Due.is("15: a lost one comes too", x.couldHike(0), 1);
        x.come(0, 1, 1);
        Due.is("15: who is outside does not come", x.couldHike(0), 0);
        x.come(1, 0, 0);
        Due.is("15: nor who is on a hike", x.couldHike(1), 0);
        Due.is("15: nothing changes", x.ofTroop(0, 5) * 100 + x.ofTroop(0, 9) * 10 + x.count(5), 141);
        x.pass(30);
        Due.is("15: with the colour that there is", x.couldHike(1), 1);

        ScoutGates y = withTroops(2);
        y.set(0, 0);
        y.lose(0, 0);
        y.pass(1);
        y.come(0, 0, 1);
        y.resize(0, 1);
        Due.is("15: twice", y.couldHike(0), 2);
        y.resize(0, 2);
        Due.is("15: once", y.couldHike(0), 1);
    }

    private static void promise16Put() {
        ScoutGates x = new ScoutGates();
        Due.is("16: none", x.put(0), BAD_VALUE);
        Due.is("16: a space", x.put(32), BAD_VALUE);
        Due.is("16: code 127", x.put(127), BAD_VALUE);
        Due.is("16: code 33", x.put(33), 1);
        Due.is("16: code 126", x.put(126), 2);
        Due.is("16: a hole", x.put('n' << 16 | '1'), BAD_VALUE);
        Due.is("16: a hole at the end", x.put('n' << 8), BAD_VALUE);
        Due.is("16: a bit above", x.put(1L << 63 | 'n'), BAD_VALUE);
        Due.is("16: all bits", x.put(-1), BAD_VALUE);
        Due.is("16: a bad first of eight", x.put(0x2061616161616161L), BAD_VALUE);
        Due.is("16: eight, the first above 126", x.put(0x8061616161616161L), BAD_VALUE);
        Due.is("16: nothing is put", x.wipe(), 2);
        Due.is("16: the last one is lowest", x.put('n' << 8 | '1'), 2);
        Due.is("16: it reads n1", x.fault(), NONE);
        x.wipe();
        for (int i = 1; i <= 9; i++) {
            Due.is("16: eight", x.put(0x6161616161616161L), 8 * i);
        }
        Due.is("16: seven", x.put(0x61616161616161L), 79);
        Due.is("16: up to 81", x.put(0x6161), TOO_MANY);
        Due.is("16: up to 80", x.put(0x61), 80);
        Due.is("16: one more", x.put(0x61), TOO_MANY);
        Due.is("16: a bad one more", x.put(0x20), BAD_VALUE);
        Due.is("16: no change", x.count(8) * 10 + x.count(9), 800);
    }

    private static void promise17Wipe() {
        ScoutGates x = new ScoutGates();
        Due.is("17: empty", x.wipe(), 0);
        Due.write(x, "n1;c0.0r");
        Due.is("17: eight", x.wipe(), 8);
        Due.is("17: empty again", x.count(8), 0);
        Due.is("17: no change", x.count(9), 0);
        Due.write(x, "t5");
        Due.is("17: begins anew", x.fault() * 10 + x.wipe(), 10 * NONE + 2);
    }

    private static void fault(String text, int due) {
        ScoutGates x = new ScoutGates();
        Due.write(x, text);
        Due.is("18: fault of " + text, x.fault(), due);
        Due.is("18: the text stays", x.count(8), text.length());
    }

    private static void promise18Fault() {
        String[] good = {"n0", "n9", "n10", "n99", "t1", "c0.0r", "c9.99b", "l0.0", "l9.99", "s0=0", "s9=99",
            "n1;n2", "c0.10b;t5;l1.2;s3=4;n16"};
        for (String text : good) {
            fault(text, NONE);
            for (int i = 0; i <= text.length(); i++) {
                String start = text.substring(0, i);
                char last = i == 0 ? ';' : start.charAt(i - 1);
                boolean isWhole = last == 'r' || last == 'b'
                    || last >= '0' && last <= '9' && start.matches("(.*;)?([nt][0-9]+|l.\\.[0-9]+|s.=[0-9]+)");
                fault(start, isWhole ? NONE : i);
            }
        }
        fault("n100", 3);
        fault("n00", 2);
        fault("n05", 2);
        fault("t990", 3);
        fault("x", 0);
        fault("N1", 0);
        fault(";n1", 0);
        fault("n1;;n1", 3);
        fault("n1;", 3);
        fault("n1,n1", 2);
        fault("n-1", 1);
        fault("c10.1r", 2);
        fault("c0=1r", 2);
        fault("c0.r", 3);
        fault("c0.1", 4);
        fault("c0.1g", 4);
        fault("c0.01r", 4);
        fault("c0.100r", 5);
        fault("c0.1rb", 5);
        fault("l1=2", 2);
        fault("l1.2r", 4);
        fault("lr", 1);
        fault("s1.2", 2);
        fault("s1=", 3);
        fault("s1=2=3", 4);
        fault("n1;t2;x", 6);
        fault("n1n2", 2);
        StringBuilder full = new StringBuilder("n99");
        while (full.length() < 79) {
            full.append(";t99");
        }
        full.append(';');
        fault(full.toString(), 80);
        fault(full.substring(0, 79), NONE);
    }

    private static int carryOut(ScoutGates x, String text) {
        Due.write(x, text);
        return x.carryOut();
    }

    private static void promise19CarryOut() {
        ScoutGates x = new ScoutGates();
        Due.is("19: empty", x.carryOut(), BAD_TEXT);
        Due.is("19: a fault", carryOut(x, "n3;x"), BAD_TEXT);
        Due.is("19: the pad stays", x.count(8), 4);
        Due.is("19: nothing was carried out", x.count(1) + x.count(9), 0);
        x.wipe();
        Due.is("19: all", carryOut(x, "n3;n1;s0=2;c0.0r;c0.1b;l0.2;t5"), 7);
        Due.is("19: the pad is empty", x.count(8), 0);
        Due.is("19: one change", x.count(9), 1);
        Due.is("19: n", x.ofTroop(0, 0) * 10 + x.ofTroop(1, 0), 31);
        Due.is("19: s", x.ofTroop(0, 2), 2);
        Due.is("19: c, red", x.ofTroop(0, 6), 1);
        Due.is("19: c, blue", x.ofTroop(0, 7) * 10 + x.count(5), 21);
        Due.is("19: l", x.ofTroop(0, 9), 4);
        Due.is("19: t", x.count(0) * 10 + x.of(0, 2, 1), 55);
        Due.is("19: up to the first error", carryOut(x, "t1;n17;t1"), 1);
        Due.is("19: the rest is left", x.count(0) * 10 + x.count(8), 60);
        Due.is("19: none", carryOut(x, "t0;t1"), 0);
        Due.is("19: none is a change too", x.count(9) * 100 + x.count(0), 306);
        Due.is("19: no such troop", carryOut(x, "c9.0r"), 0);
        Due.is("19: no such scout", carryOut(x, "l0.99"), 0);
        Due.is("19: bad size", carryOut(x, "s0=17"), 0);
        x.undo();
        x.undo();
        x.undo();
        x.undo();
        x.undo();
        Due.is("19: undone in one", x.count(0) * 10 + x.count(8), 50);
        x.undo();
        Due.is("19: undone all", x.count(1), 0);
        Due.is("19: numbers of two digits", carryOut(x, "n1;n16;s1=10;c1.15r;l1.14;t57"), 6);
        Due.is("19: size", x.ofTroop(1, 0) * 100 + x.ofTroop(1, 2), 1610);
        Due.is("19: scouts", x.ofTroop(1, 6) + x.ofTroop(1, 9), 0xC000);
        Due.is("19: minutes", x.count(0), 57);
        x.undo();
        Due.is("19: 27 orders", carryOut(x, "n1;n1;n1;n1;n1;t1;t1;t1;t1;t1;t1;t1;t1;t1;t1;t1;t1;t1;t1;t1;t1;t1;t1;t1;t1;t1;t1"), 27);
    }

    private static void promise20Undo() {
        ScoutGates x = new ScoutGates();
        for (int i = 0; i < 6; i++) {
            x.set(0, i);
        }
        Due.is("20: six", x.count(9), 6);
        x.troop(2);
        Due.is("20: not seven", x.count(9), 6);
        for (int i = 5; i >= 0; i--) {
            Due.is("20: undo", x.undo(), i);
            Due.is("20: patience", x.count(6), i);
        }
        Due.is("20: the oldest was dropped", x.undo(), NOT_POSSIBLE);
        Due.is("20: no troop", x.count(1), 0);

        ScoutGates y = withTroops(2, 1);
        y.come(0, 0, 1);
        y.come(1, 0, 0);
        y.lose(0, 1);
        y.pass(5);
        y.put('t');
        y.save(0);
        y.undo();
        Due.is("20: minutes", y.count(0) * 10 + y.of(0, 1, 1), 0);
        Due.is("20: of the hike too", y.of(1, 0, 1), 30);
        Due.is("20: the pad stays", y.count(8), 1);
        y.undo();
        Due.is("20: lost", y.of(0, 1, 0), HOME);
        y.undo();
        Due.is("20: the hike", y.of(1, 0, 0) + y.count(2) + y.ofTroop(1, 1) + y.of(1, 0, 2) + y.ofTroop(1, 11), 0);
        y.undo();
        Due.is("20: early", y.count(5) + y.of(0, 0, 0), 0);
        y.undo();
        y.undo();
        Due.is("20: the slot stays", y.restore(0), 2);
        Due.is("20: as it was", y.count(0) * 10 + y.of(0, 1, 1), 55);
    }

    private static void promise20WhatIsRecorded() {
        ScoutGates x = withTroops(2);
        x.undo();
        x.troop(2);
        int[] none = {x.put('n'), x.fault(), x.wipe(), x.save(0), x.why(0, 0, 0), x.waitsFor(0), x.opensIn(0),
            x.couldHike(0), x.count(0), x.of(0, 0, 0), x.ofTroop(0, 0), x.set(2, 0), x.troop(0), x.resize(0, 0),
            x.come(0, 0, 2), x.lose(0, 2), x.find(0, 0), x.pass(0), x.carryOut(), x.restore(1), x.restore(2)};
        Due.is("20: " + none.length + " calls record nothing", x.count(9), 1);
        x.set(0, 20);
        x.resize(0, 2);
        x.restore(0);
        Due.is("20: no difference is recorded too", x.count(9), 4);
        x.come(0, 0, 0);
        x.lose(0, 0);
        Due.is("20: come and lose", x.count(9), 6);
        x.undo();
        x.undo();
        x.undo();
        x.lose(0, 1);
        x.find(0, 1);
        x.pass(1);
        Due.is("20: find and pass", x.count(9), 6);
        x.come(0, 0, 7);
        x.undo();
        Due.is("20: an error spoils no state", x.undo() * 10 + x.of(0, 1, 0), 40 + LOST);
        Due.is("20: undo is no change", x.undo() * 10 + x.undo(), 32);
    }

    private static void promise20EachChangeIsUndone() {
        ScoutGates x = withTroops(2, 2);
        x.lose(0, 0);
        x.pass(3);
        x.find(0, 0);
        Due.is("20: found", x.undo() * 100 + x.of(0, 0, 0) * 10 + x.of(0, 0, 1), 443);
        x.set(1, 5);
        x.undo();
        Due.is("20: set", x.count(7), 30);
        x.lose(0, 1);
        x.resize(1, 9);
        x.undo();
        Due.is("20: resized", x.ofTroop(1, 2) * 10 + x.of(0, 1, 0), 20 + LOST);
        x.undo();
        x.troop(3);
        x.undo();
        Due.is("20: a troop", x.count(1), 2);
        x.set(0, 1);
        x.set(0, 2);
        x.set(0, 3);
        Due.is("20: seven made, six kept", x.count(9), 6);
        Due.is("20: an error behind six", x.set(0, 100) + x.troop(0) + x.pass(0), 3 * BAD_VALUE);
        for (int i = 5; i >= 0; i--) {
            x.undo();
        }
        Due.is("20: the oldest state is whole", x.count(1) * 100 + x.count(6), 120);
    }

    private static void promise21Save() {
        ScoutGates x = withTroops(2);
        Due.is("21: slot -1", x.save(-1), BAD_VALUE);
        Due.is("21: slot 2", x.save(2), BAD_VALUE);
        Due.is("21: one troop", x.save(0), 1);
        x.troop(3);
        Due.is("21: two troops", x.save(1), 2);
        Due.is("21: no change", x.count(9), 2);
        x.set(0, 3);
        x.set(1, 4);
        x.pass(7);
        x.come(0, 0, 1);
        Due.is("21: the first", x.restore(0) * 10 + x.count(1), 11);
        Due.is("21: settings, minutes, early ones",
            x.count(6) * 10000 + x.count(7) * 100 + x.count(0) + x.count(5), 203000);
        Due.is("21: overwrites", x.save(1), 1);
        Due.is("21: so it is one", x.restore(1), 1);
    }

    private static void promise22Restore() {
        ScoutGates x = withTroops(2, 1);
        Due.is("22: slot -1", x.restore(-1), BAD_VALUE);
        Due.is("22: slot 2", x.restore(2), BAD_VALUE);
        Due.is("22: nothing saved", x.restore(0), NOT_POSSIBLE);
        x.come(1, 0, 0);
        x.pass(3);
        x.lose(0, 0);
        x.save(1);
        Due.is("22: nothing saved in the other", x.restore(0), NOT_POSSIBLE);
        x.put('n');
        x.pass(9);
        x.troop(4);
        int before = x.count(9);
        Due.is("22: restores", x.restore(1), 2);
        Due.is("22: is a change", x.count(9), Math.min(6, before + 1));
        Due.is("22: the pad stays", x.count(8), 1);
        Due.is("22: minutes", x.count(0) * 100 + x.of(1, 0, 1), 327);
        Due.is("22: lost ones", x.ofTroop(0, 9), 1);
        x.pass(1);
        Due.is("22: the slot keeps it", x.restore(1) * 10 + x.count(0), 23);
        x.undo();
        x.undo();
        x.undo();
        Due.is("22: is undone", x.count(1) * 100 + x.count(0), 312);
        ScoutGates empty = new ScoutGates();
        Due.is("22: saving nothing", empty.save(0), 0);
        empty.troop(1);
        Due.is("22: restoring nothing", empty.restore(0) + empty.count(1), 0);
    }
}
