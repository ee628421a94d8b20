/** Promises 9 to 15 of ../shared/DOC.md, what there is and what if: a test for each edge. */
public final class EdgesOfAnswersTest {
    public static void main(String[] args) {
        ofTroop();
        of();
        count();
        why();
        waitsFor();
        opensIn();
        couldHike();
        Due.end();
    }

    private static void ofTroop() {
        Due.test("9: 0 its size", EdgesOfAnswersTest::sizeOfTroop);
        Due.test("9: 1 its colour", EdgesOfAnswersTest::colourOfTroop);
        Due.test("9: 2 its size for the next hike", EdgesOfAnswersTest::nextSizeOfTroop);
        Due.test("9: 3 its count down", EdgesOfAnswersTest::countDownOfTroop);
        Due.test("9: 4 hikes so far", EdgesOfAnswersTest::hikesOfTroop);
        Due.test("9: 5 to 9 scouts who are 0 to 4, as a set", EdgesOfAnswersTest::setsOfTroop);
        Due.test("9: 5 to 9 scouts who are so: struck ones, too", EdgesOfAnswersTest::setsWithStruck);
        Due.test("9: 8: those on a hike who are none any more, too", EdgesOfAnswersTest::onHikesWithNone);
        Due.test("9: 10 struck ones, as a set", EdgesOfAnswersTest::struckOfTroop);
        Due.test("9: 11 scouts who went on hikes so far, all together", EdgesOfAnswersTest::wentOfTroop);
        Due.test("9: NO_SUCH if there is no such troop", EdgesOfAnswersTest::ofNoTroop);
        Due.test("9: BAD_VALUE if what is below 0", EdgesOfAnswersTest::ofTroopTooSmall);
        Due.test("9: BAD_VALUE if what is above 11", EdgesOfAnswersTest::ofTroopTooLarge);
        Due.test("9: NO_SUCH before BAD_VALUE", EdgesOfAnswersTest::badWhatOfNoTroop);
    }

    private static void of() {
        Due.test("10: (also one on a hike whose number is not below the size any more)",
            EdgesOfAnswersTest::ofNoneOnAHike);
        Due.test("10: 0 how it is, 0 to 4", EdgesOfAnswersTest::howItIs);
        Due.test("10: 1 minutes: on a hike until it is over", EdgesOfAnswersTest::minutesOnAHike);
        Due.test("10: 1 minutes: lost for how long", EdgesOfAnswersTest::minutesLost);
        Due.test("10: 1 minutes (0 otherwise)", EdgesOfAnswersTest::minutesOtherwise);
        Due.test("10: 2 hikes so far", EdgesOfAnswersTest::hikesOfScout);
        Due.test("10: 3 whether it is struck (1 or 0)", EdgesOfAnswersTest::isStruck);
        Due.test("10: NO_SUCH if there is no such troop", EdgesOfAnswersTest::ofScoutOfNoTroop);
        Due.test("10: NO_SUCH if there is no such scout", EdgesOfAnswersTest::ofNoScout);
        Due.test("10: BAD_VALUE if what is below 0", EdgesOfAnswersTest::ofTooSmall);
        Due.test("10: BAD_VALUE if what is above 3", EdgesOfAnswersTest::ofTooLarge);
        Due.test("10: NO_SUCH before BAD_VALUE", EdgesOfAnswersTest::badWhatOfNoScout);
    }

    private static void count() {
        Due.test("11: 0 minutes so far", EdgesOfAnswersTest::minutesSoFar);
        Due.test("11: 1 troops", EdgesOfAnswersTest::troops);
        Due.test("11: 2 hikes so far", EdgesOfAnswersTest::hikesSoFar);
        Due.test("11: 3 scouts on hikes now", EdgesOfAnswersTest::onHikesNow);
        Due.test("11: 4 lost ones now", EdgesOfAnswersTest::lostNow);
        Due.test("11: 5 how often somebody came early so far", EdgesOfAnswersTest::earlySoFar);
        Due.test("11: 6, 7 the settings", EdgesOfAnswersTest::settings);
        Due.test("11: 8 the length of the pad", EdgesOfAnswersTest::lengthOfPad);
        Due.test("11: 9 how many changes can be undone", EdgesOfAnswersTest::changesToUndo);
        Due.test("11: BAD_VALUE if what is below 0", EdgesOfAnswersTest::countTooSmall);
        Due.test("11: BAD_VALUE if what is above 9", EdgesOfAnswersTest::countTooLarge);
    }

    private static void why() {
        Due.test("12: 0: it would be inside", EdgesOfAnswersTest::wouldBeInside);
        Due.test("12: 4: it would be outside", EdgesOfAnswersTest::wouldBeOutside);
        Due.test("12: 0 and 4 of a lost one", EdgesOfAnswersTest::whyOfLost);
        Due.test("12: 0 and 4 of a struck one", EdgesOfAnswersTest::whyOfStruck);
        Due.test("12: 1 it is on a hike", EdgesOfAnswersTest::whyOnAHike);
        Due.test("12: 2 it is inside", EdgesOfAnswersTest::whyInside);
        Due.test("12: 3 it is outside", EdgesOfAnswersTest::whyOutside);
        Due.test("12: NO_SUCH if there is no such troop", EdgesOfAnswersTest::whyOfNoTroop);
        Due.test("12: NO_SUCH if there is no such scout", EdgesOfAnswersTest::whyOfNoScout);
        Due.test("12: BAD_VALUE if colour is neither 0 nor 1", EdgesOfAnswersTest::whyWithNoColour);
        Due.test("12: BAD_VALUE of one who cannot come", EdgesOfAnswersTest::whyInsideWithNoColour);
        Due.test("12: NO_SUCH before BAD_VALUE", EdgesOfAnswersTest::whyOfNoScoutWithNoColour);
        Due.test("12: nothing changes", EdgesOfAnswersTest::whyChangesNothing);
    }

    private static void waitsFor() {
        Due.test("13: its scouts: all at first", EdgesOfAnswersTest::waitsForAll);
        Due.test("13: who are neither inside", EdgesOfAnswersTest::waitsNotForInside);
        Due.test("13: nor struck", EdgesOfAnswersTest::waitsNotForStruck);
        Due.test("13: for nobody", EdgesOfAnswersTest::waitsForNobody);
        Due.test("13: not for one on a hike who is none", EdgesOfAnswersTest::waitsNotForNone);
        Due.test("13: NO_SUCH if there is no such troop", EdgesOfAnswersTest::waitsForOfNoTroop);
        Due.test("13: nothing changes", EdgesOfAnswersTest::waitsForChangesNothing);
    }

    private static void opensIn() {
        Due.test("14: in how many minutes: 1", EdgesOfAnswersTest::opensInOne);
        Due.test("14: in how many minutes: as many as the patience leaves", EdgesOfAnswersTest::opensInAfterPatience);
        Due.test("14: in how many minutes: 100, the most that there can be", EdgesOfAnswersTest::opensInMost);
        Due.test("14: by the last strike, if more are lost", EdgesOfAnswersTest::opensInByTheLastStrike);
        Due.test("14: if nothing else is done: NONE if somebody at home is waited for",
            EdgesOfAnswersTest::opensInNotFromHome);
        Due.test("14: NONE if nobody is inside", EdgesOfAnswersTest::opensInNobodyInside);
        Due.test("14: NONE if the last one is on a hike, and only comes home", EdgesOfAnswersTest::opensInNotFromHike);
        Due.test("14: the bound of minutes does not matter", EdgesOfAnswersTest::opensInBeyondTheBound);
        Due.test("14: NO_SUCH if there is no such troop", EdgesOfAnswersTest::opensInOfNoTroop);
        Due.test("14: nothing changes", EdgesOfAnswersTest::opensInChangesNothing);
    }

    private static void couldHike() {
        Due.test("15: its scouts who are at home come", EdgesOfAnswersTest::couldHikeFromHome);
        Due.test("15: or lost come", EdgesOfAnswersTest::couldHikeFromLost);
        Due.test("15: those inside are there", EdgesOfAnswersTest::couldHikeWithInside);
        Due.test("15: without time going by: not if one is on a hike", EdgesOfAnswersTest::couldNotHikeFromHike);
        Due.test("15: not if one is outside", EdgesOfAnswersTest::couldNotHikeFromOutside);
        Due.test("15: each with the colour that there is then: 1", EdgesOfAnswersTest::couldHikeWithColour1);
        Due.test("15: by their numbers", EdgesOfAnswersTest::couldHikeByNumbers);
        Due.test("15: how often the gate opens: 2", EdgesOfAnswersTest::couldHikeTwice);
        Due.test("15: how often the gate opens: 1 with 16 scouts", EdgesOfAnswersTest::couldHikeWith16);
        Due.test("15: how often the gate opens: 1, and a lost one comes behind it",
            EdgesOfAnswersTest::couldHikeBeforeALostOne);
        Due.test("15: how often the gate opens: 1, and those who are anew come behind it",
            EdgesOfAnswersTest::couldHikeBeforeAnew);
        Due.test("15: NO_SUCH if there is no such troop", EdgesOfAnswersTest::couldHikeOfNoTroop);
        Due.test("15: nothing changes", EdgesOfAnswersTest::couldHikeChangesNothing);
    }

    /** Troop 0 with scouts who are, from 0 to 4: at home, inside, outside, lost and struck (2 minutes), lost (0). */
    private static ScoutGates mixed() {
        ScoutGates x = Scene.troops(5, 1);
        x.set(Scene.PATIENCE, 1);
        Scene.come(x, Scene.RED, 1);
        Scene.come(x, Scene.BLUE, 2);
        x.lose(0, 3);
        x.pass(2);
        x.lose(0, 4);
        return x;
    }

    /** Scouts 0 and 1 of troop 0 are on a hike of 30 minutes, and its size is 1. */
    private static ScoutGates shrunkOnAHike() {
        ScoutGates x = Scene.troops(2);
        x.resize(0, 1);
        Scene.come(x, Scene.RED, 0, 1);
        return x;
    }

    // ---- 9: ofTroop

    private static void sizeOfTroop() {
        ScoutGates x = Scene.troops(2, 16);
        x.resize(0, 3);
        Due.is("of 0", x.ofTroop(0, 0), 2);
        Due.is("of 1", x.ofTroop(1, 0), 16);
        Scene.come(x, Scene.RED, 0, 1);
        Due.is("behind an opening", x.ofTroop(0, 0), 3);
    }

    private static void colourOfTroop() {
        ScoutGates x = Scene.troops(1, 1);
        x.come(1, 0, Scene.RED);
        Due.is("of 0", x.ofTroop(0, 1), 0);
        Due.is("of 1", x.ofTroop(1, 1), 1);
    }

    private static void nextSizeOfTroop() {
        ScoutGates x = Scene.troops(2, 4);
        x.resize(0, 3);
        Due.is("of 0", x.ofTroop(0, 2), 3);
        Due.is("of 1", x.ofTroop(1, 2), 4);
    }

    private static void countDownOfTroop() {
        ScoutGates x = mixed();
        Due.is("at home, outside, lost", x.ofTroop(0, 3), 3);
        Due.is("of 1", x.ofTroop(1, 3), 1);
    }

    private static void hikesOfTroop() {
        ScoutGates x = Scene.troops(2, 1);
        Due.is("at first", x.ofTroop(0, 4), 0);
        Scene.come(x, Scene.RED, 0, 1);
        x.pass(30);
        Scene.come(x, Scene.BLUE, 0, 1);
        Due.is("of 0", x.ofTroop(0, 4), 2);
        Due.is("of 1", x.ofTroop(1, 4), 0);
    }

    private static void setsOfTroop() {
        ScoutGates x = mixed();
        Due.is("at home", x.ofTroop(0, 5), 1);
        Due.is("inside", x.ofTroop(0, 6), 2);
        Due.is("outside", x.ofTroop(0, 7), 4);
        Due.is("on a hike", x.ofTroop(0, 8), 0);
        Due.is("lost", x.ofTroop(0, 9), 24);
        x.come(1, 0, Scene.RED);
        Due.is("on a hike, of 1", x.ofTroop(1, 8), 1);
    }

    private static void onHikesWithNone() {
        ScoutGates x = shrunkOnAHike();
        Due.is("both", x.ofTroop(0, 8), 3);
        Due.is("of its size", x.ofTroop(0, 0), 1);
        Due.is("nobody else", x.ofTroop(0, 5) + x.ofTroop(0, 6) + x.ofTroop(0, 7) + x.ofTroop(0, 9), 0);
    }

    private static void struckOfTroop() {
        ScoutGates x = mixed();
        Due.is("one", x.ofTroop(0, 10), 8);
        x.pass(2);
        Due.is("two", x.ofTroop(0, 10), 24);
        Scene.come(x, Scene.RED, 3);
        Due.is("also inside", x.ofTroop(0, 10), 24);
    }

    /** All but scout 0 are struck; then 1 is found, 2 comes, 3 is early, and 4 stays lost. */
    private static void setsWithStruck() {
        ScoutGates x = Scene.struck(5, 1, 2, 3, 4);
        x.find(0, 1);
        x.come(0, 2, Scene.RED);
        x.come(0, 3, Scene.BLUE);
        Due.is("struck", x.ofTroop(0, 10), 30);
        int[] due = {3, 4, 8, 0, 16};
        for (int how = 0; how < due.length; how++) {
            Due.is("those who are " + how, x.ofTroop(0, 5 + how), due[how]);
        }
    }

    private static void wentOfTroop() {
        ScoutGates x = Scene.troops(3);
        Scene.come(x, Scene.RED, 0, 1, 2);
        x.pass(30);
        Due.is("three", x.ofTroop(0, 11), 3);
        x.resize(0, 1);
        Scene.come(x, Scene.BLUE, 0, 1, 2);
        Due.is("three more, two of them none any more", x.ofTroop(0, 11), 6);
        x.pass(30);
        Scene.come(x, Scene.RED, 0);
        Due.is("one more", x.ofTroop(0, 11), 7);
    }

    private static void ofNoTroop() {
        ScoutGates x = Scene.troops(1, 1);
        Due.is("troop 2", x.ofTroop(2, 0), Scene.NO_SUCH);
        Due.is("troop -1", x.ofTroop(-1, 0), Scene.NO_SUCH);
        Due.is("troop 5", x.ofTroop(5, 0), Scene.NO_SUCH);
        Due.is("most troop", x.ofTroop(Integer.MAX_VALUE, 0), Scene.NO_SUCH);
    }

    private static void ofTroopTooSmall() {
        Due.is("-1", Scene.troops(1).ofTroop(0, -1), Scene.BAD_VALUE);
        Due.is("least", Scene.troops(1).ofTroop(0, Integer.MIN_VALUE), Scene.BAD_VALUE);
    }

    private static void ofTroopTooLarge() {
        Due.is("11", Scene.troops(1).ofTroop(0, 11), 0);
        Due.is("12", Scene.troops(1).ofTroop(0, 12), Scene.BAD_VALUE);
        Due.is("most", Scene.troops(1).ofTroop(0, Integer.MAX_VALUE), Scene.BAD_VALUE);
    }

    private static void badWhatOfNoTroop() {
        Due.is("troop 1, 12", Scene.troops(1).ofTroop(1, 12), Scene.NO_SUCH);
        Due.is("troop 0 of none, -1", new ScoutGates().ofTroop(0, -1), Scene.NO_SUCH);
    }

    // ---- 10: of

    private static void ofNoneOnAHike() {
        ScoutGates x = shrunkOnAHike();
        x.pass(10);
        int[] due = {Scene.ON_HIKE, 20, 1, 0};
        for (int what = 0; what < due.length; what++) {
            Due.is("what " + what, x.of(0, 1, what), due[what]);
        }
        x.pass(20);
        Due.is("home", x.of(0, 1, 0), Scene.NO_SUCH);
        ScoutGates y = Scene.troops(16);
        y.resize(0, 1);
        for (int scout = 0; scout < 16; scout++) {
            y.come(0, scout, Scene.RED);
        }
        Due.is("scout 15", y.of(0, 15, 0), Scene.ON_HIKE);
        Due.is("scout 16", y.of(0, 16, 0), Scene.NO_SUCH);
        Due.is("scout 31", y.of(0, 31, 0), Scene.NO_SUCH);
        Due.is("scout 32", y.of(0, 32, 0), Scene.NO_SUCH);
        Due.is("scout -1", y.of(0, -1, 0), Scene.NO_SUCH);
    }

    private static void howItIs() {
        ScoutGates x = mixed();
        int[] due = {Scene.HOME, Scene.INSIDE, Scene.OUTSIDE, Scene.LOST, Scene.LOST};
        for (int scout = 0; scout < due.length; scout++) {
            Due.is("scout " + scout, x.of(0, scout, 0), due[scout]);
        }
        x.come(1, 0, Scene.RED);
        Due.is("scout of 1", x.of(1, 0, 0), Scene.ON_HIKE);
    }

    private static void minutesOnAHike() {
        ScoutGates x = Scene.troops(1);
        Scene.come(x, Scene.RED, 0);
        Due.is("at its beginning", x.of(0, 0, 1), 30);
        x.pass(29);
        Due.is("before its end", x.of(0, 0, 1), 1);
        x.pass(1);
        Due.is("at its end", x.of(0, 0, 1), 0);
    }

    private static void minutesLost() {
        ScoutGates x = mixed();
        Due.is("lost at once", x.of(0, 4, 1), 0);
        Due.is("lost before", x.of(0, 3, 1), 2);
        x.pass(7);
        Due.is("later", x.of(0, 4, 1) * 10 + x.of(0, 3, 1), 79);
    }

    private static void minutesOtherwise() {
        ScoutGates x = mixed();
        x.find(0, 3);
        Due.is("at home", x.of(0, 0, 1), 0);
        Due.is("inside", x.of(0, 1, 1), 0);
        Due.is("outside", x.of(0, 2, 1), 0);
        Due.is("found", x.of(0, 3, 1), 0);
    }

    private static void hikesOfScout() {
        ScoutGates x = Scene.troops(2);
        Due.is("at first", x.of(0, 0, 2), 0);
        Scene.come(x, Scene.RED, 0, 1);
        Due.is("at its beginning", x.of(0, 0, 2), 1);
        x.pass(30);
        Due.is("behind it", x.of(0, 0, 2), 1);
        x.set(Scene.PATIENCE, 0);
        x.lose(0, 1);
        x.pass(1);
        Scene.come(x, Scene.BLUE, 0);
        Due.is("of who went", x.of(0, 0, 2), 2);
        Due.is("of who was lost", x.of(0, 1, 2), 1);
    }

    private static void isStruck() {
        ScoutGates x = mixed();
        Due.is("struck", x.of(0, 3, 3), 1);
        Due.is("lost, not struck", x.of(0, 4, 3), 0);
        Due.is("at home", x.of(0, 0, 3), 0);
        x.find(0, 3);
        Due.is("found", x.of(0, 3, 3), 1);
    }

    private static void ofScoutOfNoTroop() {
        ScoutGates x = Scene.troops(1);
        Due.is("troop 1", x.of(1, 0, 0), Scene.NO_SUCH);
        Due.is("troop -1", x.of(-1, 0, 0), Scene.NO_SUCH);
        Due.is("troop 5", x.of(5, 0, 0), Scene.NO_SUCH);
    }

    private static void ofNoScout() {
        ScoutGates x = Scene.troops(3, 16);
        Due.is("scout 2", x.of(0, 2, 0), Scene.HOME);
        Due.is("scout 3", x.of(0, 3, 0), Scene.NO_SUCH);
        Due.is("scout -1", x.of(0, -1, 0), Scene.NO_SUCH);
        Due.is("scout 15 of 16", x.of(1, 15, 0), Scene.HOME);
        Due.is("scout 16 of 16", x.of(1, 16, 0), Scene.NO_SUCH);
        Due.is("least scout", x.of(1, Integer.MIN_VALUE, 0), Scene.NO_SUCH);
        Due.is("most scout", x.of(1, Integer.MAX_VALUE, 0), Scene.NO_SUCH);
    }

    private static void ofTooSmall() {
        Due.is("-1", Scene.troops(1).of(0, 0, -1), Scene.BAD_VALUE);
        Due.is("least", Scene.troops(1).of(0, 0, Integer.MIN_VALUE), Scene.BAD_VALUE);
    }

    private static void ofTooLarge() {
        Due.is("4", Scene.troops(1).of(0, 0, 4), Scene.BAD_VALUE);
        Due.is("most", Scene.troops(1).of(0, 0, Integer.MAX_VALUE), Scene.BAD_VALUE);
        Due.is("of one who is none, on a hike", shrunkOnAHike().of(0, 1, 4), Scene.BAD_VALUE);
    }

    private static void badWhatOfNoScout() {
        Due.is("scout 1 of one", Scene.troops(1).of(0, 1, 4), Scene.NO_SUCH);
        Due.is("troop 1 of one", Scene.troops(1).of(1, 0, -1), Scene.NO_SUCH);
    }

    // ---- 11: count

    private static void minutesSoFar() {
        ScoutGates x = new ScoutGates();
        Due.is("at first", x.count(0), 0);
        x.pass(7);
        x.pass(99);
        Due.is("behind two", x.count(0), 106);
    }

    private static void troops() {
        ScoutGates x = Scene.troops(1, 1, 1, 1);
        Due.is("four", x.count(1), 4);
        x.troop(17);
        Due.is("still four", x.count(1), 4);
    }

    private static void hikesSoFar() {
        ScoutGates x = Scene.troops(1, 2);
        x.come(0, 0, Scene.RED);
        x.come(1, 0, Scene.RED);
        Due.is("of one troop", x.count(2), 1);
        x.come(1, 1, Scene.RED);
        Due.is("of both", x.count(2), 2);
        x.pass(30);
        Due.is("they are over", x.count(2), 2);
    }

    private static void onHikesNow() {
        ScoutGates x = Scene.troops(1, 2);
        x.resize(1, 1);
        x.come(0, 0, Scene.RED);
        x.pass(10);
        x.come(1, 0, Scene.RED);
        x.come(1, 1, Scene.RED);
        Due.is("of both troops, with one who is none", x.count(3), 3);
        x.pass(20);
        Due.is("one is home", x.count(3), 2);
        x.pass(10);
        Due.is("all are home", x.count(3), 0);
    }

    private static void lostNow() {
        ScoutGates x = Scene.troops(2, 2);
        x.lose(0, 0);
        x.lose(0, 1);
        x.lose(1, 1);
        Due.is("of both troops", x.count(4), 3);
        x.pass(50);
        Due.is("struck ones too", x.count(4), 3);
        x.find(0, 0);
        x.come(1, 1, Scene.BLUE);
        Due.is("one is left", x.count(4), 1);
    }

    private static void earlySoFar() {
        ScoutGates x = Scene.troops(2, 2);
        x.come(0, 0, Scene.BLUE);
        x.come(1, 0, Scene.BLUE);
        x.come(1, 1, Scene.RED);
        x.come(0, 0, Scene.BLUE);
        Due.is("of both troops", x.count(5), 2);
        x.lose(0, 0);
        x.come(0, 0, Scene.BLUE);
        Due.is("the same one again", x.count(5), 3);
        Scene.carryOut(x, "c0.1b");
        Due.is("in a text", x.count(5), 4);
        x.couldHike(0);
        x.why(0, 0, Scene.BLUE);
        Due.is("not by what if", x.count(5), 4);
    }

    private static void settings() {
        ScoutGates x = new ScoutGates();
        x.set(Scene.PATIENCE, 11);
        x.set(Scene.AWAY, 22);
        Due.is("patience", x.count(6), 11);
        Due.is("away", x.count(7), 22);
    }

    private static void lengthOfPad() {
        ScoutGates x = new ScoutGates();
        Due.is("empty", x.count(8), 0);
        Due.write(x, "n1;n2;n3;n4");
        Due.is("eleven", x.count(8), 11);
        x.carryOut();
        Due.is("carried out", x.count(8), 0);
    }

    private static void changesToUndo() {
        ScoutGates x = new ScoutGates();
        for (int changes = 0; changes <= 6; changes++) {
            Due.is("behind " + changes, x.count(9), changes);
            x.troop(changes < 5 ? 1 : 0);
            if (changes >= 5) {
                x.pass(1);
            }
        }
        Due.is("behind 7", x.count(9), 6);
        x.undo();
        Due.is("behind undo()", x.count(9), 5);
    }

    private static void countTooSmall() {
        Due.is("-1", new ScoutGates().count(-1), Scene.BAD_VALUE);
        Due.is("least", new ScoutGates().count(Integer.MIN_VALUE), Scene.BAD_VALUE);
    }

    private static void countTooLarge() {
        Due.is("9", new ScoutGates().count(9), 0);
        Due.is("10", new ScoutGates().count(10), Scene.BAD_VALUE);
        Due.is("most", new ScoutGates().count(Integer.MAX_VALUE), Scene.BAD_VALUE);
    }

    // ---- 12: why

    private static void wouldBeInside() {
        ScoutGates x = Scene.troops(1);
        Due.is("colour 0", x.why(0, 0, 0), 0);
        Scene.come(x, Scene.RED, 0);
        x.pass(30);
        Due.is("colour 1, turned", x.why(0, 0, 1), 0);
    }

    private static void wouldBeOutside() {
        ScoutGates x = Scene.troops(1);
        Due.is("colour 1", x.why(0, 0, 1), 4);
        Scene.come(x, Scene.RED, 0);
        x.pass(30);
        Due.is("colour 0, turned", x.why(0, 0, 0), 4);
    }

    private static void whyOfLost() {
        ScoutGates x = Scene.troops(2);
        x.lose(0, 1);
        Due.is("colour 0", x.why(0, 1, 0), 0);
        Due.is("colour 1", x.why(0, 1, 1), 4);
    }

    private static void whyOfStruck() {
        ScoutGates x = Scene.struck(2, 1);
        Due.is("lost, colour 0", x.why(0, 1, 0), 0);
        Due.is("lost, colour 1", x.why(0, 1, 1), 4);
        x.find(0, 1);
        Due.is("at home, colour 0", x.why(0, 1, 0), 0);
        x.come(0, 1, 1);
        Due.is("outside", x.why(0, 1, 0), 3);
    }

    private static void whyOnAHike() {
        ScoutGates x = Scene.troops(1);
        Scene.come(x, Scene.RED, 0);
        Due.is("colour 0", x.why(0, 0, 0), 1);
        Due.is("colour 1", x.why(0, 0, 1), 1);
    }

    private static void whyInside() {
        ScoutGates x = Scene.troops(2);
        Scene.come(x, Scene.RED, 0);
        Due.is("colour 0", x.why(0, 0, 0), 2);
        Due.is("colour 1", x.why(0, 0, 1), 2);
    }

    private static void whyOutside() {
        ScoutGates x = Scene.troops(2);
        Scene.come(x, Scene.BLUE, 0);
        Due.is("colour 0", x.why(0, 0, 0), 3);
        Due.is("colour 1", x.why(0, 0, 1), 3);
    }

    private static void whyOfNoTroop() {
        ScoutGates x = Scene.troops(1);
        Due.is("troop 1", x.why(1, 0, 0), Scene.NO_SUCH);
        Due.is("troop -1", x.why(-1, 0, 0), Scene.NO_SUCH);
        Due.is("troop 5", x.why(5, 0, 0), Scene.NO_SUCH);
    }

    private static void whyOfNoScout() {
        ScoutGates x = Scene.troops(3);
        Due.is("scout 2", x.why(0, 2, 0), 0);
        Due.is("scout 3", x.why(0, 3, 0), Scene.NO_SUCH);
        Due.is("scout -1", x.why(0, -1, 0), Scene.NO_SUCH);
        Due.is("none, on a hike", shrunkOnAHike().why(0, 1, 0), Scene.NO_SUCH);
    }

    private static void whyWithNoColour() {
        Due.is("colour 2", Scene.troops(1).why(0, 0, 2), Scene.BAD_VALUE);
        Due.is("colour -1", Scene.troops(1).why(0, 0, -1), Scene.BAD_VALUE);
    }

    private static void whyInsideWithNoColour() {
        ScoutGates x = mixed();
        x.come(1, 0, Scene.RED);
        Due.is("inside", x.why(0, 1, 2), Scene.BAD_VALUE);
        Due.is("outside", x.why(0, 2, -1), Scene.BAD_VALUE);
        Due.is("on a hike", x.why(1, 0, 2), Scene.BAD_VALUE);
    }

    private static void whyOfNoScoutWithNoColour() {
        Due.is("scout 1 of one", Scene.troops(1).why(0, 1, 2), Scene.NO_SUCH);
        Due.is("troop 1 of one", Scene.troops(1).why(1, 0, -1), Scene.NO_SUCH);
    }

    private static void whyChangesNothing() {
        ScoutGates x = mixed();
        for (int scout = 0; scout < 5; scout++) {
            x.why(0, scout, 0);
            x.why(0, scout, 1);
        }
        Due.holds("nothing is different", Scene.areTheSame(x, mixed()));
    }

    // ---- 13: waitsFor

    private static void waitsForAll() {
        Due.is("one", Scene.troops(1).waitsFor(0), 1);
        Due.is("16", Scene.troops(16).waitsFor(0), 65535);
    }

    private static void waitsNotForInside() {
        ScoutGates x = Scene.troops(3);
        Scene.come(x, Scene.RED, 1);
        Due.is("without 1", x.waitsFor(0), 5);
        Scene.come(x, Scene.BLUE, 2);
        Due.is("with 2, who is outside", x.waitsFor(0), 5);
    }

    private static void waitsNotForStruck() {
        ScoutGates x = mixed();
        Due.is("0, 2 and 4", x.waitsFor(0), 21);
        x.pass(2);
        Due.is("0 and 2", x.waitsFor(0), 5);
    }

    private static void waitsForNobody() {
        Due.is("all are struck", Scene.struck(3, 0, 1, 2).waitsFor(0), 0);
    }

    private static void waitsNotForNone() {
        Due.is("one of two", shrunkOnAHike().waitsFor(0), 1);
    }

    private static void waitsForOfNoTroop() {
        ScoutGates x = Scene.troops(1);
        Due.is("troop 1", x.waitsFor(1), Scene.NO_SUCH);
        Due.is("troop -1", x.waitsFor(-1), Scene.NO_SUCH);
        Due.is("troop 5", x.waitsFor(5), Scene.NO_SUCH);
    }

    private static void waitsForChangesNothing() {
        ScoutGates x = mixed();
        x.waitsFor(0);
        x.waitsFor(1);
        Due.holds("nothing is different", Scene.areTheSame(x, mixed()));
    }

    // ---- 14: opensIn

    private static ScoutGates lastIsLost(int patience) {
        ScoutGates x = Scene.troops(2);
        x.set(Scene.PATIENCE, patience);
        Scene.come(x, Scene.RED, 0);
        x.lose(0, 1);
        return x;
    }

    private static void opensInOne() {
        ScoutGates x = lastIsLost(0);
        Due.is("opens in", x.opensIn(0), 1);
        Due.is("so it does", x.pass(1), 1);
    }

    private static void opensInAfterPatience() {
        ScoutGates x = lastIsLost(20);
        x.pass(8);
        Due.is("opens in", x.opensIn(0), 13);
        Due.is("not before", x.pass(12), 0);
        Due.is("so it does", x.pass(1), 1);
    }

    private static void opensInMost() {
        ScoutGates x = lastIsLost(99);
        Due.is("opens in", x.opensIn(0), 100);
        Due.is("not before", x.pass(99), 0);
        Due.is("so it does", x.pass(1), 1);
    }

    private static void opensInByTheLastStrike() {
        ScoutGates x = Scene.troops(3);
        Scene.come(x, Scene.RED, 0);
        x.lose(0, 1);
        x.pass(10);
        x.lose(0, 2);
        Due.is("opens in", x.opensIn(0), 21);
    }

    private static void opensInNotFromHome() {
        ScoutGates x = Scene.troops(3);
        Scene.come(x, Scene.RED, 0);
        x.lose(0, 1);
        Due.is("2 is at home", x.opensIn(0), Scene.NONE);
        Scene.come(x, Scene.BLUE, 2);
        Due.is("2 is outside", x.opensIn(0), Scene.NONE);
        x.lose(0, 2);
        Due.is("2 is lost too", x.opensIn(0), 21);
    }

    private static void opensInNobodyInside() {
        ScoutGates x = Scene.struck(2, 0, 1);
        Due.is("all are lost", x.opensIn(0), Scene.NONE);
        Scene.come(x, Scene.BLUE, 0);
        Due.is("one is outside", x.opensIn(0), Scene.NONE);
    }

    private static void opensInNotFromHike() {
        ScoutGates x = Scene.struck(2, 0);
        Scene.come(x, Scene.BLUE, 0);
        Due.is("opens for 1, and waits for it", Scene.come(x, Scene.RED, 1), 1);
        Due.is("0 is inside", Scene.how(x, 0), Scene.INSIDE);
        Due.is("opens in", x.opensIn(0), Scene.NONE);
    }

    private static void opensInBeyondTheBound() {
        ScoutGates x = lastIsLost(99);
        x.find(0, 1);
        Scene.pass(x, 9999);
        x.lose(0, 1);
        Due.is("no minute can pass", x.pass(1), Scene.NOT_POSSIBLE);
        Due.is("opens in", x.opensIn(0), 100);
    }

    private static void opensInOfNoTroop() {
        ScoutGates x = Scene.troops(1);
        Due.is("troop 1", x.opensIn(1), Scene.NO_SUCH);
        Due.is("troop -1", x.opensIn(-1), Scene.NO_SUCH);
        Due.is("troop 5", x.opensIn(5), Scene.NO_SUCH);
    }

    private static void opensInChangesNothing() {
        ScoutGates x = lastIsLost(99);
        x.opensIn(0);
        Due.holds("nothing is different", Scene.areTheSame(x, lastIsLost(99)));
        ScoutGates y = mixed();
        y.opensIn(0);
        y.opensIn(1);
        Due.holds("nothing is different, mixed", Scene.areTheSame(y, mixed()));
    }

    // ---- 15: couldHike

    private static void couldHikeFromHome() {
        Due.is("of three", Scene.troops(3).couldHike(0), 1);
        Due.is("of one", Scene.troops(1).couldHike(0), 1);
    }

    private static void couldHikeFromLost() {
        ScoutGates x = Scene.troops(2);
        x.lose(0, 0);
        Due.is("one is lost", x.couldHike(0), 1);
        x.lose(0, 1);
        Due.is("both are lost", x.couldHike(0), 1);
    }

    private static void couldHikeWithInside() {
        ScoutGates x = Scene.troops(3);
        Scene.come(x, Scene.RED, 0, 2);
        Due.is("one comes", x.couldHike(0), 1);
    }

    private static void couldNotHikeFromHike() {
        ScoutGates x = Scene.troops(1);
        Scene.come(x, Scene.RED, 0);
        x.pass(29);
        Due.is("for its last minute", x.couldHike(0), 0);
        x.pass(1);
        Due.is("home", x.couldHike(0), 1);
    }

    private static void couldNotHikeFromOutside() {
        ScoutGates x = Scene.troops(2);
        Scene.come(x, Scene.BLUE, 0);
        Due.is("one is outside", x.couldHike(0), 0);
    }

    private static void couldHikeWithColour1() {
        ScoutGates x = Scene.troops(2);
        Scene.come(x, Scene.RED, 0, 1);
        x.pass(30);
        Due.is("colour", x.ofTroop(0, Scene.COLOUR), 1);
        Due.is("both come", x.couldHike(0), 1);
    }

    /** Scouts 0 and 1, struck and at home, go with 2; if 2 came first, they would go on a hike of their own. */
    private static void couldHikeByNumbers() {
        ScoutGates x = Scene.struck(3, 0, 1);
        x.find(0, 0);
        x.find(0, 1);
        x.resize(0, 2);
        Due.is("all go at once", x.couldHike(0), 1);
    }

    private static void couldHikeTwice() {
        ScoutGates x = Scene.struck(2, 0);
        Scene.come(x, Scene.BLUE, 0);
        x.resize(0, 1);
        Due.is("could", x.couldHike(0), 2);
        Due.is("does", Scene.come(x, Scene.RED, 1), 2);
    }

    private static void couldHikeWith16() {
        ScoutGates x = Scene.troops(16);
        Due.is("16", x.couldHike(0), 1);
        Scene.come(x, Scene.BLUE, 15);
        Due.is("the last one is outside", x.couldHike(0), 0);
    }

    private static void couldHikeBeforeALostOne() {
        ScoutGates x = Scene.struck(3, 2);
        Due.is("could", x.couldHike(0), 1);
        Due.is("does", Scene.come(x, Scene.RED, 0, 1), 1);
        Due.is("not for the lost one", Scene.come(x, Scene.BLUE, 2), 0);
    }

    private static void couldHikeBeforeAnew() {
        ScoutGates x = Scene.troops(1);
        x.resize(0, 3);
        Due.is("could", x.couldHike(0), 1);
        Due.is("does", Scene.come(x, Scene.RED, 0), 1);
        Due.is("not for those anew", Scene.come(x, Scene.BLUE, 1, 2), 0);
    }

    private static void couldHikeOfNoTroop() {
        ScoutGates x = Scene.troops(1);
        Due.is("troop 1", x.couldHike(1), Scene.NO_SUCH);
        Due.is("troop -1", x.couldHike(-1), Scene.NO_SUCH);
        Due.is("troop 5", x.couldHike(5), Scene.NO_SUCH);
    }

    private static void couldHikeChangesNothing() {
        ScoutGates x = mixed();
        Due.is("troop 1", x.couldHike(1), 1);
        x.couldHike(0);
        Due.holds("nothing is different", Scene.areTheSame(x, mixed()));
    }
}
