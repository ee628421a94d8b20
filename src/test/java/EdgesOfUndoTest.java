import java.util.function.ToIntFunction;

/** Promises 20 to 22 of ../shared/DOC.md, and what errors change: a test for each edge. */
public final class EdgesOfUndoTest {
    public static void main(String[] args) {
        undo();
        whatIsRecorded();
        save();
        restore();
        errorsOfChanges();
        errorsOfAnswers();
        Due.end();
    }

    private static void undo() {
        Due.test("20: everything is as it was before it: set()", () -> undoes(x -> x.set(Scene.AWAY, 7)));
        Due.test("20: everything is as it was before it: troop()", () -> undoes(x -> x.troop(3)));
        Due.test("20: everything is as it was before it: resize()", () -> undoes(x -> x.resize(0, 9)));
        Due.test("20: everything is as it was before it: come(), inside", () -> undoes(x -> x.come(0, 3, Scene.RED)));
        Due.test("20: everything is as it was before it: come(), early", () -> undoes(x -> x.come(0, 3, Scene.BLUE)));
        Due.test("20: everything is as it was before it: come() of a lost one", () -> undoes(x -> x.come(0, 2, 0)));
        Due.test("20: everything is as it was before it: come(), with a hike", () -> undoes(x -> x.come(2, 0, 0)));
        Due.test("20: everything is as it was before it: lose()", () -> undoes(x -> x.lose(0, 1)));
        Due.test("20: everything is as it was before it: find()", () -> undoes(x -> x.find(0, 2)));
        Due.test("20: everything is as it was before it: pass()", () -> undoes(x -> x.pass(99)));
        Due.test("20: everything is as it was before it: carryOut()", EdgesOfUndoTest::undoesCarryOut);
        Due.test("20: everything is as it was before it: restore()", () -> undoes(x -> x.restore(1)));
        Due.test("20: everything is as it was before it: each of 16 scouts", EdgesOfUndoTest::undoesSixteenScouts);
        Due.test("20: except the pad", EdgesOfUndoTest::padIsNotUndone);
        Due.test("20: except the pad: one that was carried out stays empty", EdgesOfUndoTest::carriedPadStaysEmpty);
        Due.test("20: except the slots", EdgesOfUndoTest::slotsAreNotUndone);
        Due.test("20: A history of at most 6 states is kept: 6", EdgesOfUndoTest::sixStates);
        Due.test("20: when one more is recorded, the oldest one is dropped", EdgesOfUndoTest::seventhState);
        Due.test("20: the oldest one is dropped, far more often", EdgesOfUndoTest::manyStates);
        Due.test("20: the latest change first", EdgesOfUndoTest::latestFirst);
        Due.test("20: Returns how many changes can be undone then: 0", EdgesOfUndoTest::undoneToNone);
        Due.test("20: NOT_POSSIBLE if there is none, at first", EdgesOfUndoTest::nothingToUndo);
        Due.test("20: NOT_POSSIBLE if there is none, behind the last undo()", EdgesOfUndoTest::nothingMoreToUndo);
        Due.test("20: a change behind undo() is recorded in its place", EdgesOfUndoTest::changeBehindUndo);
        Due.test("20: undo() is no change: it is not undone", EdgesOfUndoTest::undoIsNoChange);
    }

    private static void whatIsRecorded() {
        Due.test("20: each method that is a change records: set()", () -> records(x -> x.set(Scene.AWAY, 7)));
        Due.test("20: each method that is a change records: troop()", () -> records(x -> x.troop(3)));
        Due.test("20: each method that is a change records: resize()", () -> records(x -> x.resize(0, 9)));
        Due.test("20: each method that is a change records: come()", () -> records(x -> x.come(0, 0, 0)));
        Due.test("20: each method that is a change records: lose()", () -> records(x -> x.lose(0, 0)));
        Due.test("20: each method that is a change records: find()", () -> records(x -> x.find(0, 1)));
        Due.test("20: each method that is a change records: pass()", () -> records(x -> x.pass(1)));
        Due.test("20: each method that is a change records: carryOut()", () -> records(x -> x.carryOut()));
        Due.test("20: each method that is a change records: restore()", () -> records(x -> x.restore(0)));
        Due.test("20: (also if nothing is different then): set()", () -> records(x -> x.set(Scene.AWAY, 30)));
        Due.test("20: (also if nothing is different then): resize()", () -> records(x -> x.resize(0, 2)));
        Due.test("20: (also if nothing is different then): restore()", EdgesOfUndoTest::restoresTheSame);
        Due.test("20: and returns no error: errors record nothing", EdgesOfUndoTest::errorsRecordNothing);
        Due.test("20: what is no change records nothing", EdgesOfUndoTest::answersRecordNothing);
        Due.test("20: An order of a text records nothing by itself", EdgesOfUndoTest::ordersRecordNothing);
    }

    private static void save() {
        Due.test("21: Saves everything: it is as it was", EdgesOfUndoTest::savesEverything);
        Due.test("21: Saves everything: each of 16 scouts", EdgesOfUndoTest::savesSixteenScouts);
        Due.test("21: except the pad", EdgesOfUndoTest::savesNoPad);
        Due.test("21: except the history", EdgesOfUndoTest::savesNoHistory);
        Due.test("21: except the slots", EdgesOfUndoTest::savesNoSlots);
        Due.test("21: and overwrites what was saved there", EdgesOfUndoTest::overwrites);
        Due.test("21: the other slot stays", EdgesOfUndoTest::otherSlotStays);
        Due.test("21: what was saved is not changed by later changes", EdgesOfUndoTest::savedStaysAsItIs);
        Due.test("21: a slot: 0 and 1", EdgesOfUndoTest::slots0And1);
        Due.test("21: Returns how many troops there are: 0", EdgesOfUndoTest::savesNoTroops);
        Due.test("21: Returns how many troops there are: 5", EdgesOfUndoTest::savesFiveTroops);
        Due.test("21: BAD_VALUE if there is no such slot, below", () -> noSlot(x -> x.save(-1)));
        Due.test("21: BAD_VALUE if there is no such slot, above", () -> noSlot(x -> x.save(2)));
        Due.test("21: save() is no change", EdgesOfUndoTest::saveIsNoChange);
    }

    private static void restore() {
        Due.test("22: what was saved last in a slot", EdgesOfUndoTest::restoresLast);
        Due.test("22: which keeps it", EdgesOfUndoTest::slotKeepsIt);
        Due.test("22: which keeps it, when what was restored changes", EdgesOfUndoTest::slotKeepsItUnchanged);
        Due.test("22: Restores fewer troops", EdgesOfUndoTest::restoresFewer);
        Due.test("22: Restores fewer troops: one that comes behind that is a new one",
            EdgesOfUndoTest::troopBehindRestoreIsNew);
        Due.test("22: Restores more troops", EdgesOfUndoTest::restoresMore);
        Due.test("22: This is a change", EdgesOfUndoTest::restoreIsAChange);
        Due.test("22: the pad stays", EdgesOfUndoTest::restoreKeepsPad);
        Due.test("22: Returns how many troops there are then: 0", EdgesOfUndoTest::restoresNone);
        Due.test("22: BAD_VALUE if there is no such slot, below", () -> noSlot(x -> x.restore(-1)));
        Due.test("22: BAD_VALUE if there is no such slot, above", () -> noSlot(x -> x.restore(2)));
        Due.test("22: NOT_POSSIBLE if nothing was saved in it", EdgesOfUndoTest::nothingSaved);
        Due.test("22: NOT_POSSIBLE, though something was saved in the other one",
            EdgesOfUndoTest::nothingSavedInTheOther);
        Due.test("22: BAD_VALUE before NOT_POSSIBLE", EdgesOfUndoTest::noSlotNothingSaved);
    }

    private static void errorsOfChanges() {
        Due.test("2: an error changes nothing: no setting", () -> fails(x -> x.set(2, 5), Scene.BAD_VALUE));
        Due.test("2: an error changes nothing: PATIENCE", () -> fails(x -> x.set(0, 100), Scene.BAD_VALUE));
        Due.test("2: an error changes nothing: AWAY", () -> fails(x -> x.set(1, 0), Scene.BAD_VALUE));
        Due.test("3: an error changes nothing: size", () -> fails(x -> x.troop(17), Scene.BAD_VALUE));
        Due.test("3: an error changes nothing: a sixth", EdgesOfUndoTest::sixthTroopFails);
        Due.test("4: an error changes nothing: troop", () -> fails(x -> x.resize(3, 1), Scene.NO_SUCH));
        Due.test("4: an error changes nothing: size", () -> fails(x -> x.resize(0, 0), Scene.BAD_VALUE));
        Due.test("5: an error changes nothing: troop", () -> fails(x -> x.come(3, 0, 0), Scene.NO_SUCH));
        Due.test("5: an error changes nothing: scout", () -> fails(x -> x.come(0, 4, 1), Scene.NO_SUCH));
        Due.test("5: an error changes nothing: colour", () -> fails(x -> x.come(0, 3, 2), Scene.BAD_VALUE));
        Due.test("5: an error changes nothing: on a hike", () -> fails(x -> x.come(1, 0, 0), Scene.NOT_POSSIBLE));
        Due.test("5: an error changes nothing: inside", () -> fails(x -> x.come(0, 0, 1), Scene.NOT_POSSIBLE));
        Due.test("5: an error changes nothing: outside", () -> fails(x -> x.come(0, 1, 1), Scene.NOT_POSSIBLE));
        Due.test("6: an error changes nothing: troop", () -> fails(x -> x.lose(3, 0), Scene.NO_SUCH));
        Due.test("6: an error changes nothing: scout", () -> fails(x -> x.lose(0, 4), Scene.NO_SUCH));
        Due.test("6: an error changes nothing: on a hike", () -> fails(x -> x.lose(1, 0), Scene.NOT_POSSIBLE));
        Due.test("6: an error changes nothing: lost", () -> fails(x -> x.lose(0, 2), Scene.NOT_POSSIBLE));
        Due.test("7: an error changes nothing: troop", () -> fails(x -> x.find(3, 0), Scene.NO_SUCH));
        Due.test("7: an error changes nothing: scout", () -> fails(x -> x.find(0, 4), Scene.NO_SUCH));
        Due.test("7: an error changes nothing: inside", () -> fails(x -> x.find(0, 0), Scene.NOT_POSSIBLE));
        Due.test("7: an error changes nothing: outside", () -> fails(x -> x.find(0, 1), Scene.NOT_POSSIBLE));
        Due.test("7: an error changes nothing: on a hike", () -> fails(x -> x.find(1, 0), Scene.NOT_POSSIBLE));
        Due.test("7: an error changes nothing: at home", () -> fails(x -> x.find(0, 3), Scene.NOT_POSSIBLE));
        Due.test("8: an error changes nothing: minutes", () -> fails(x -> x.pass(100), Scene.BAD_VALUE));
        Due.test("8: an error changes nothing: too many minutes", EdgesOfUndoTest::tooManyMinutesFail);
    }

    private static void errorsOfAnswers() {
        Due.test("9: an error changes nothing", () -> fails(x -> x.ofTroop(3, 0), Scene.NO_SUCH));
        Due.test("10: an error changes nothing", () -> fails(x -> x.of(0, 4, 0), Scene.NO_SUCH));
        Due.test("11: an error changes nothing", () -> fails(x -> x.count(10), Scene.BAD_VALUE));
        Due.test("12: an error changes nothing", () -> fails(x -> x.why(0, 0, 2), Scene.BAD_VALUE));
        Due.test("13: an error changes nothing", () -> fails(x -> x.waitsFor(3), Scene.NO_SUCH));
        Due.test("14: an error changes nothing", () -> fails(x -> x.opensIn(3), Scene.NO_SUCH));
        Due.test("15: an error changes nothing", () -> fails(x -> x.couldHike(3), Scene.NO_SUCH));
        Due.test("16: an error changes nothing: none", () -> fails(x -> x.put(0), Scene.BAD_VALUE));
        Due.test("16: an error changes nothing: code", () -> fails(x -> x.put('a' * 256L + ' '), Scene.BAD_VALUE));
        Due.test("16: an error changes nothing: too long", EdgesOfUndoTest::tooLongPadFails);
        Due.test("19: an error changes nothing", EdgesOfUndoTest::badTextFails);
        Due.test("20: an error changes nothing", EdgesOfUndoTest::undoFails);
        Due.test("21: an error changes nothing", () -> fails(x -> x.save(2), Scene.BAD_VALUE));
        Due.test("22: an error changes nothing: no slot", () -> fails(x -> x.restore(2), Scene.BAD_VALUE));
        Due.test("22: an error changes nothing: nothing saved", EdgesOfUndoTest::restoreOfNothingFails);
    }

    /**
     * Three troops with scouts who are all that they can be: of troop 0, from 0 to 3, inside, outside, lost for 2
     * minutes and struck, at home. Troop 1 is on a hike, with one who is none. More changes than can be undone are
     * behind it, both slots are used, and the pad holds a text without a fault.
     */
    private static ScoutGates rich() {
        ScoutGates x = Scene.troops(4, 2, 1);
        x.save(1);
        x.set(Scene.PATIENCE, 1);
        x.resize(1, 1);
        x.come(1, 0, Scene.RED);
        x.come(1, 1, Scene.RED);
        x.come(0, 0, Scene.RED);
        x.come(0, 1, Scene.BLUE);
        x.lose(0, 2);
        x.pass(2);
        x.save(0);
        x.resize(0, 3);
        Due.write(x, "t1;n1");
        return x;
    }

    // ---- 20: undo

    private static void undoes(ToIntFunction<ScoutGates> change) {
        ScoutGates x = rich();
        // One change is undone first, so that the one to come is not the seventh.
        x.undo();
        String before = Scene.everything(x);
        Due.holds("it is no error", change.applyAsInt(x) >= 0);
        Due.is("changes", x.count(Scene.UNDOS), 6);
        Due.holds("something is different", !before.equals(Scene.everything(x)));
        Due.is("undo", x.undo(), 5);
        Due.holds("all is as it was", before.equals(Scene.everything(x)));
        ScoutGates y = rich();
        y.undo();
        Due.holds("the states before, and the slots, are as they were", Scene.areTheSame(x, y));
    }

    private static void undoesCarryOut() {
        ScoutGates x = rich();
        x.undo();
        x.wipe();
        String before = Scene.everything(x);
        Due.is("carries out", Scene.carryOut(x, "n1;c0.3r;t1;s0=4;l0.3"), 5);
        Due.is("undo", x.undo(), 5);
        Due.holds("all is as it was", before.equals(Scene.everything(x)));
    }

    private static void padIsNotUndone() {
        ScoutGates x = new ScoutGates();
        x.put('n');
        x.troop(1);
        x.put('1');
        x.undo();
        Due.is("length", x.count(Scene.LENGTH_OF_PAD), 2);
        Due.is("its text", x.fault(), Scene.NONE);
    }

    private static void carriedPadStaysEmpty() {
        ScoutGates x = new ScoutGates();
        Scene.carryOut(x, "n1");
        x.undo();
        Due.is("length", x.count(Scene.LENGTH_OF_PAD), 0);
        Due.is("troops", x.count(1), 0);
    }

    private static void slotsAreNotUndone() {
        ScoutGates x = new ScoutGates();
        x.troop(1);
        x.save(0);
        x.undo();
        Due.is("restores", x.restore(0), 1);
    }

    /** Every scout of a troop of 16 has these minutes and hikes. */
    private static void eachOf16(String when, ScoutGates x, int minutes, int hikes) {
        for (int scout = 0; scout < 16; scout++) {
            Due.is(when + ", minutes of " + scout, x.of(0, scout, Scene.MINUTES), minutes);
            Due.is(when + ", hikes of " + scout, x.of(0, scout, Scene.ITS_HIKES), hikes);
        }
    }

    private static void undoesSixteenScouts() {
        ScoutGates x = new ScoutGates();
        x.troop(16);
        x.save(0);
        for (int scout = 0; scout < 16; scout++) {
            x.come(0, scout, Scene.RED);
        }
        eachOf16("before", x, 30, 1);
        x.restore(0);
        eachOf16("behind restore()", x, 0, 0);
        x.undo();
        eachOf16("behind undo()", x, 30, 1);
        x.pass(30);
        eachOf16("behind pass()", x, 0, 1);
        x.undo();
        eachOf16("behind undo() of pass()", x, 30, 1);
    }

    private static void savesSixteenScouts() {
        ScoutGates x = Scene.sixteenOnAHike();
        x.pass(7);
        x.save(1);
        x.pass(30);
        eachOf16("later", x, 0, 1);
        x.restore(1);
        eachOf16("restored", x, 23, 1);
        x.save(0);
        x.pass(23);
        for (int scout = 0; scout < 16; scout++) {
            x.come(0, scout, Scene.BLUE);
        }
        eachOf16("on the second hike", x, 30, 2);
        x.restore(0);
        eachOf16("restored from the other slot", x, 23, 1);
    }

    private static void sixStates() {
        ScoutGates x = new ScoutGates();
        for (int value = 1; value <= 6; value++) {
            x.set(Scene.AWAY, value);
        }
        Due.is("changes", x.count(Scene.UNDOS), 6);
        for (int left = 5; left >= 0; left--) {
            Due.is("undo", x.undo(), left);
        }
        Due.is("as at first", x.count(7), 30);
    }

    private static void seventhState() {
        ScoutGates x = new ScoutGates();
        for (int value = 1; value <= 7; value++) {
            x.set(Scene.AWAY, value);
        }
        Due.is("changes", x.count(Scene.UNDOS), 6);
        for (int left = 5; left >= 0; left--) {
            Due.is("undo", x.undo(), left);
        }
        Due.is("as behind the first change", x.count(7), 1);
        Due.is("no seventh", x.undo(), Scene.NOT_POSSIBLE);
    }

    private static void manyStates() {
        ScoutGates x = new ScoutGates();
        for (int value = 1; value <= 99; value++) {
            x.set(Scene.AWAY, value);
            Due.is("changes", x.count(Scene.UNDOS), Math.min(value, 6));
        }
        for (int left = 5; left >= 0; left--) {
            x.undo();
            Due.is("away", x.count(7), 93 + left);
        }
    }

    private static void latestFirst() {
        ScoutGates x = new ScoutGates();
        x.troop(1);
        x.set(Scene.AWAY, 5);
        x.pass(3);
        x.undo();
        Due.is("pass is undone", x.count(0) * 100 + x.count(7), 5);
        x.undo();
        Due.is("set is undone", x.count(7) * 10 + x.count(1), 301);
        x.undo();
        Due.is("troop is undone", x.count(1), 0);
    }

    private static void undoneToNone() {
        ScoutGates x = Scene.troops(1, 1);
        Due.is("one is left", x.undo(), 1);
        Due.is("none is left", x.undo(), 0);
        Due.is("changes", x.count(Scene.UNDOS), 0);
    }

    private static void nothingToUndo() {
        Due.is("undo", new ScoutGates().undo(), Scene.NOT_POSSIBLE);
    }

    private static void nothingMoreToUndo() {
        ScoutGates x = Scene.troops(1);
        Due.is("the last one", x.undo(), 0);
        Due.is("once more", x.undo(), Scene.NOT_POSSIBLE);
        Due.is("and again", x.undo(), Scene.NOT_POSSIBLE);
        Due.is("changes", x.count(Scene.UNDOS), 0);
    }

    private static void changeBehindUndo() {
        ScoutGates x = new ScoutGates();
        x.set(Scene.AWAY, 1);
        x.set(Scene.AWAY, 2);
        x.undo();
        x.set(Scene.AWAY, 3);
        Due.is("changes", x.count(Scene.UNDOS), 2);
        x.undo();
        Due.is("away", x.count(7), 1);
        x.undo();
        Due.is("away at first", x.count(7), 30);
    }

    private static void undoIsNoChange() {
        ScoutGates x = new ScoutGates();
        x.set(Scene.AWAY, 1);
        x.set(Scene.AWAY, 2);
        Due.is("one", x.undo(), 1);
        Due.is("two", x.undo(), 0);
        Due.is("away", x.count(7), 30);
    }

    // ---- 20: what is recorded

    private static ScoutGates beforeRecording() {
        ScoutGates x = Scene.troops(2);
        x.lose(0, 1);
        x.save(0);
        Due.write(x, "t1");
        return x;
    }

    private static void records(ToIntFunction<ScoutGates> change) {
        ScoutGates x = beforeRecording();
        String before = Scene.everything(x);
        Due.is("changes before", x.count(Scene.UNDOS), 2);
        Due.holds("it is no error", change.applyAsInt(x) >= 0);
        Due.is("changes", x.count(Scene.UNDOS), 3);
        x.undo();
        x.wipe();
        Due.write(x, "t1");
        Due.holds("the state before it", before.equals(Scene.everything(x)));
    }

    private static void restoresTheSame() {
        ScoutGates x = beforeRecording();
        x.restore(0);
        x.restore(0);
        Due.is("changes", x.count(Scene.UNDOS), 4);
    }

    private static void errorsRecordNothing() {
        ScoutGates x = beforeRecording();
        int[] errors = {x.set(2, 0), x.troop(0), x.resize(0, 0), x.come(0, 0, 2), x.lose(0, 1), x.find(0, 0), x.pass(0),
            x.restore(1), x.restore(2)};
        for (int error : errors) {
            Due.holds("an error: " + error, error < 0);
        }
        x.put('x');
        Due.is("bad text", x.carryOut(), Scene.BAD_TEXT);
        Due.is("changes", x.count(Scene.UNDOS), 2);
    }

    private static void answersRecordNothing() {
        ScoutGates x = beforeRecording();
        x.ofTroop(0, 0);
        x.of(0, 0, 0);
        x.count(0);
        x.why(0, 0, 0);
        x.waitsFor(0);
        x.opensIn(0);
        x.couldHike(0);
        x.put('a');
        x.fault();
        x.wipe();
        x.save(1);
        Due.is("changes", x.count(Scene.UNDOS), 2);
    }

    private static void ordersRecordNothing() {
        ScoutGates x = new ScoutGates();
        Due.is("carried out", Scene.carryOut(x, "n2;n1;c0.0r;l0.1;s0=1;t1"), 6);
        Due.is("changes", x.count(Scene.UNDOS), 1);
        x.set(Scene.AWAY, 5);
        x.set(Scene.AWAY, 5);
        x.set(Scene.AWAY, 5);
        x.set(Scene.AWAY, 5);
        Scene.carryOut(x, "t1;t1;t1;t1;t1;t1;t1;t1");
        Due.is("no older one is dropped", x.count(Scene.UNDOS), 6);
        for (int back = 0; back < 6; back++) {
            x.undo();
        }
        Due.is("as at first", x.count(1) + x.count(0), 0);
    }

    // ---- 21: save

    private static void savesEverything() {
        ScoutGates x = rich();
        x.save(1);
        x.wipe();
        String saved = Scene.everything(x);
        x.set(Scene.PATIENCE, 9);
        x.set(Scene.AWAY, 9);
        x.pass(40);
        x.come(0, 3, Scene.BLUE);
        x.come(1, 0, Scene.BLUE);
        x.come(2, 0, Scene.RED);
        x.lose(0, 0);
        x.resize(2, 5);
        x.troop(7);
        Due.is("restores", x.restore(1), 3);
        Due.holds("all is as it was", saved.equals(Scene.everything(x)));
    }

    private static void savesNoPad() {
        ScoutGates x = new ScoutGates();
        x.put('n');
        x.save(0);
        x.put('1');
        x.restore(0);
        Due.is("length", x.count(Scene.LENGTH_OF_PAD), 2);
        Due.is("its text", x.fault(), Scene.NONE);
    }

    private static void savesNoHistory() {
        ScoutGates x = Scene.troops(1, 1);
        x.save(0);
        x.undo();
        x.undo();
        x.restore(0);
        Due.is("changes", x.count(Scene.UNDOS), 1);
        x.undo();
        Due.is("the state before restore()", x.count(1), 0);
        Due.is("nothing before it", x.undo(), Scene.NOT_POSSIBLE);
    }

    private static void savesNoSlots() {
        ScoutGates x = Scene.troops(1);
        x.save(0);
        x.troop(1);
        x.save(1);
        x.restore(0);
        Due.is("slot 1 is there", x.restore(1), 2);
    }

    private static void overwrites() {
        ScoutGates x = Scene.troops(1, 1, 1);
        Due.is("three", x.save(0), 3);
        x.undo();
        Due.is("two", x.save(0), 2);
        x.troop(1);
        x.troop(1);
        Due.is("the two", x.restore(0), 2);
    }

    private static void otherSlotStays() {
        ScoutGates x = Scene.troops(1);
        x.save(0);
        x.troop(1);
        x.save(1);
        x.troop(1);
        Due.is("slot 0", x.restore(0), 1);
        Due.is("slot 1", x.restore(1), 2);
    }

    private static void savedStaysAsItIs() {
        ScoutGates x = Scene.troops(2);
        x.save(0);
        x.come(0, 0, Scene.RED);
        x.come(0, 1, Scene.RED);
        x.pass(5);
        x.undo();
        x.set(Scene.AWAY, 5);
        x.restore(0);
        Due.is("at home", Scene.set(x, Scene.HOME), 3);
        Due.is("hikes, minutes", x.count(2) + x.count(0), 0);
        Due.is("away", x.count(7), 30);
    }

    private static void slots0And1() {
        ScoutGates x = Scene.troops(1);
        Due.is("0", x.save(0), 1);
        Due.is("1", x.save(1), 1);
        Due.is("0 is saved", x.restore(0), 1);
        Due.is("1 is saved", x.restore(1), 1);
    }

    private static void savesNoTroops() {
        Due.is("save", new ScoutGates().save(0), 0);
    }

    private static void savesFiveTroops() {
        Due.is("save", Scene.troops(1, 2, 3, 4, 5).save(1), 5);
    }

    private static void noSlot(ToIntFunction<ScoutGates> call) {
        ScoutGates x = Scene.troops(1);
        x.save(0);
        x.save(1);
        Due.is("the slot", call.applyAsInt(x), Scene.BAD_VALUE);
    }

    private static void saveIsNoChange() {
        ScoutGates x = Scene.troops(1);
        x.save(0);
        x.save(1);
        Due.is("changes", x.count(Scene.UNDOS), 1);
    }

    // ---- 22: restore

    private static void restoresLast() {
        ScoutGates x = Scene.troops(1);
        x.set(Scene.AWAY, 1);
        x.save(0);
        x.set(Scene.AWAY, 2);
        x.save(0);
        x.set(Scene.AWAY, 3);
        x.save(1);
        Due.is("restores", x.restore(0), 1);
        Due.is("away", x.count(7), 2);
    }

    private static void slotKeepsIt() {
        ScoutGates x = Scene.troops(1);
        x.save(0);
        for (int time = 0; time < 3; time++) {
            x.troop(1);
            Due.is("restores", x.restore(0), 1);
        }
    }

    private static void slotKeepsItUnchanged() {
        ScoutGates x = Scene.troops(2);
        x.save(0);
        x.restore(0);
        x.come(0, 0, Scene.RED);
        x.resize(0, 9);
        x.set(Scene.AWAY, 9);
        x.pass(9);
        x.restore(0);
        Due.is("at home", Scene.set(x, Scene.HOME), 3);
        Due.is("next size", x.ofTroop(0, Scene.NEXT_SIZE), 2);
        Due.is("away and minutes", x.count(7) * 10 + x.count(0), 300);
    }

    private static void restoresFewer() {
        ScoutGates x = Scene.troops(1);
        x.save(0);
        x.troop(2);
        x.troop(3);
        Due.is("restores", x.restore(0), 1);
        Due.is("no troop 1", x.ofTroop(1, Scene.SIZE), Scene.NO_SUCH);
        Due.is("the next one", x.troop(4), 1);
        Due.is("its size", x.ofTroop(1, Scene.SIZE), 4);
    }

    private static void troopBehindRestoreIsNew() {
        ScoutGates x = new ScoutGates();
        x.save(0);
        x.troop(16);
        for (int scout = 0; scout < 16; scout++) {
            x.come(0, scout, Scene.RED);
        }
        eachOf16("on a hike", x, 30, 1);
        Due.is("no troops", x.restore(0), 0);
        Due.is("a troop", x.troop(16), 0);
        eachOf16("anew", x, 0, 0);
        Due.is("at home", Scene.set(x, Scene.HOME), 65535);
    }

    private static void restoresMore() {
        ScoutGates x = Scene.troops(1, 2, 3);
        x.save(0);
        x.undo();
        x.undo();
        x.troop(9);
        Due.is("restores", x.restore(0), 3);
        Due.is("sizes", x.ofTroop(1, Scene.SIZE) * 10 + x.ofTroop(2, Scene.SIZE), 23);
    }

    private static void restoreIsAChange() {
        ScoutGates x = Scene.troops(1);
        x.save(0);
        x.troop(1);
        x.restore(0);
        Due.is("changes", x.count(Scene.UNDOS), 3);
        Due.is("undo", x.undo(), 2);
        Due.is("troops", x.count(1), 2);
    }

    private static void restoreKeepsPad() {
        ScoutGates x = Scene.troops(1);
        x.save(0);
        x.put('n');
        x.restore(0);
        Due.is("length", x.count(Scene.LENGTH_OF_PAD), 1);
    }

    private static void restoresNone() {
        ScoutGates x = new ScoutGates();
        x.save(1);
        x.troop(1);
        Due.is("restores", x.restore(1), 0);
        Due.is("troops", x.count(1), 0);
    }

    private static void nothingSaved() {
        Due.is("slot 0", new ScoutGates().restore(0), Scene.NOT_POSSIBLE);
        Due.is("slot 1", new ScoutGates().restore(1), Scene.NOT_POSSIBLE);
    }

    private static void nothingSavedInTheOther() {
        ScoutGates x = Scene.troops(1);
        x.save(0);
        Due.is("slot 1", x.restore(1), Scene.NOT_POSSIBLE);
        ScoutGates y = Scene.troops(1);
        y.save(1);
        Due.is("slot 0", y.restore(0), Scene.NOT_POSSIBLE);
    }

    private static void noSlotNothingSaved() {
        Due.is("slot 2", new ScoutGates().restore(2), Scene.BAD_VALUE);
        Due.is("slot -1", new ScoutGates().restore(-1), Scene.BAD_VALUE);
    }

    // ---- errors

    private static void fails(ToIntFunction<ScoutGates> call, int error) {
        ScoutGates x = rich();
        Due.is("the call", call.applyAsInt(x), error);
        Due.holds("nothing is different", Scene.areTheSame(x, rich()));
    }

    private static void sixthTroopFails() {
        ScoutGates x = Scene.troops(1, 1, 1, 1, 1);
        Due.is("the call", x.troop(1), Scene.TOO_MANY);
        Due.holds("nothing is different", Scene.areTheSame(x, Scene.troops(1, 1, 1, 1, 1)));
    }

    private static ScoutGates late() {
        ScoutGates x = Scene.troops(2);
        Scene.pass(x, 9950);
        x.come(0, 0, Scene.RED);
        x.lose(0, 1);
        return x;
    }

    private static void tooManyMinutesFail() {
        ScoutGates x = late();
        Due.is("the call", x.pass(50), Scene.NOT_POSSIBLE);
        Due.holds("nothing is different", Scene.areTheSame(x, late()));
    }

    private static void tooLongPadFails() {
        ScoutGates x = rich();
        ScoutGates y = rich();
        for (int i = x.count(Scene.LENGTH_OF_PAD); i < 80; i++) {
            x.put('1');
            y.put('1');
        }
        Due.is("the call", x.put('2'), Scene.TOO_MANY);
        Due.holds("nothing is different", Scene.areTheSame(x, y));
    }

    private static void badTextFails() {
        ScoutGates x = rich();
        ScoutGates y = rich();
        x.put('x');
        y.put('x');
        Due.is("the call", x.carryOut(), Scene.BAD_TEXT);
        Due.holds("nothing is different", Scene.areTheSame(x, y));
    }

    private static void undoFails() {
        ScoutGates x = rich();
        ScoutGates y = rich();
        for (int back = 0; back < 6; back++) {
            x.undo();
            y.undo();
        }
        Due.is("the call", x.undo(), Scene.NOT_POSSIBLE);
        Due.holds("nothing is different", Scene.areTheSame(x, y));
    }

    private static void restoreOfNothingFails() {
        ScoutGates x = Scene.troops(2, 3);
        Due.is("the call", x.restore(0), Scene.NOT_POSSIBLE);
        Due.holds("nothing is different", Scene.areTheSame(x, Scene.troops(2, 3)));
    }
}
