/** What "Terms" of ../shared/DOC.md says of settings, troops, coming, opening and minutes: a test for each edge. */
public final class EdgesOfTermsTest {
    public static void main(String[] args) {
        callsAndNumbers();
        settings();
        troops();
        coming();
        opening();
        sizesAtOpenings();
        minutes();
        Due.end();
    }

    private static void callsAndNumbers() {
        Due.test("An object is used for at most 512 calls", EdgesOfTermsTest::the512thCall);
        Due.test("NONE is returned only if no error applies", EdgesOfTermsTest::noneOnlyWithoutErrors);
        Due.test("Everything is numbered from 0", EdgesOfTermsTest::numberedFrom0);
        Due.test("Sets of scouts are bit masks", EdgesOfTermsTest::bitMasks);
    }

    private static void settings() {
        Due.test("PATIENCE (0 to 99; 20): 20 at first", EdgesOfTermsTest::firstPatience);
        Due.test("PATIENCE: a troop does not wait for a minute at 0", EdgesOfTermsTest::leastPatience);
        Due.test("PATIENCE: a troop waits for 99 minutes at 99", EdgesOfTermsTest::mostPatience);
        Due.test("AWAY (1 to 99; 30): 30 at first", EdgesOfTermsTest::firstAway);
        Due.test("AWAY: a hike of 1 minute", EdgesOfTermsTest::leastAway);
        Due.test("AWAY: a hike of 99 minutes", EdgesOfTermsTest::mostAway);
    }

    private static void troops() {
        Due.test("There are up to 5 troops", EdgesOfTermsTest::fiveTroops);
        Due.test("troops, numbered in the order in which they came", EdgesOfTermsTest::orderOfTroops);
        Due.test("each with a size (1 to 16): 1", EdgesOfTermsTest::sizeOf1);
        Due.test("each with a size (1 to 16): 16", EdgesOfTermsTest::sizeOf16);
        Due.test("its scouts are 0 to size - 1", EdgesOfTermsTest::scoutsBelowTheSize);
        Due.test("a colour (0 at first)", EdgesOfTermsTest::firstColour);
        Due.test("a size for the next hike (the same at first)", EdgesOfTermsTest::firstNextSize);
        Due.test("At first all are at home", EdgesOfTermsTest::firstAtHome);
        Due.test("one on a hike whose number is not below the size any more is none", EdgesOfTermsTest::noneOnAHike);
        Due.test("but for of()", EdgesOfTermsTest::noneOnAHikeButForOf);
        Due.test("and the numbers of those on hikes", EdgesOfTermsTest::noneOnAHikeButForNumbers);
        Due.test("one on a hike whose number is still below the size is one",
            EdgesOfTermsTest::lastBelowTheSizeOnAHike);
        Due.test("The count down: nobody is inside or struck", EdgesOfTermsTest::fullCountDown);
        Due.test("The count down: neither inside nor struck", EdgesOfTermsTest::countDownWithoutInsideAndStruck);
        Due.test("The count down: one who is inside and struck is left out once", EdgesOfTermsTest::insideAndStruck);
        Due.test("The count down of 0", EdgesOfTermsTest::countDownOf0);
    }

    private static void coming() {
        Due.test("If that is the colour of the troop, it is inside, and counted", EdgesOfTermsTest::inside);
        Due.test("if not, it is early: outside", EdgesOfTermsTest::outside);
        Due.test("the colours of a troop that has turned", EdgesOfTermsTest::coloursTurned);
        Due.test("A scout who is on a hike cannot come", EdgesOfTermsTest::onAHikeCannotCome);
        Due.test("A scout who is inside cannot come", EdgesOfTermsTest::insideCannotCome);
        Due.test("A scout who is outside cannot come", EdgesOfTermsTest::outsideCannotCome);
        Due.test("One who is lost can come: it is found, inside", EdgesOfTermsTest::lostCanCome);
        Due.test("One who is lost can come: it is found, outside", EdgesOfTermsTest::lostCanComeEarly);
    }

    private static void opening() {
        Due.test("the gate of a troop opens if its count down is 0: not at 1", EdgesOfTermsTest::notAtCountDown1);
        Due.test("and somebody is inside: not if nobody is, behind come()", EdgesOfTermsTest::nobodyInside);
        Due.test("and somebody is inside: not if nobody is, in a minute", EdgesOfTermsTest::nobodyInsideInAMinute);
        Due.test("Behind come(), and in each minute: behind nothing else", EdgesOfTermsTest::behindNothingElse);
        Due.test("those inside go on a hike", EdgesOfTermsTest::insideGo);
        Due.test("those who are not inside do not go", EdgesOfTermsTest::othersStay);
        Due.test("until AWAY minutes went by", EdgesOfTermsTest::awayMinutes);
        Due.test("the colour turns (0 becomes 1)", EdgesOfTermsTest::colourBecomes1);
        Due.test("the colour turns (1 becomes 0)", EdgesOfTermsTest::colourBecomes0);
        Due.test("no scout is struck any more", EdgesOfTermsTest::nobodyStruck);
        Due.test("and then those outside are inside, and counted", EdgesOfTermsTest::outsideBecomesInside);
        Due.test("if the count down is 0 then, it opens once more, behind a coming", EdgesOfTermsTest::opensOnceMore);
        Due.test("it opens once more in a minute", EdgesOfTermsTest::opensOnceMoreInAMinute);
        Due.test("it opens once more: not if the count down is 1 then", EdgesOfTermsTest::notOnceMore);
    }

    private static void sizesAtOpenings() {
        Due.test("the size becomes that for the next hike: not before", EdgesOfTermsTest::sizeBecomesNext);
        Due.test("whose number is not below it are none, at home", EdgesOfTermsTest::noneFromHome);
        Due.test("whose number is not below it are none, outside", EdgesOfTermsTest::noneFromOutside);
        Due.test("whose number is not below it are none, lost", EdgesOfTermsTest::noneFromLost);
        Due.test("the last one below it stays, at home", EdgesOfTermsTest::staysAtHome);
        Due.test("the last one below it stays, outside before", EdgesOfTermsTest::staysFromOutside);
        Due.test("the last one below it stays, lost", EdgesOfTermsTest::staysLost);
        Due.test("one on a hike is none any more when it comes home", EdgesOfTermsTest::noneWhenHome);
        Due.test("unless the size is above its number again by then", EdgesOfTermsTest::sizeIsAboveAgain);
        Due.test("unless the size is above: not if it is its number", EdgesOfTermsTest::sizeIsItsNumber);
        Due.test("by then: not in the minute in which it comes home", EdgesOfTermsTest::sizeIsAboveTooLate);
        Due.test("by then: in the minute before it comes home", EdgesOfTermsTest::sizeIsAboveJustInTime);
        Due.test("one that there is anew is at home, without hikes", EdgesOfTermsTest::anew);
        Due.test("one that there is anew: it was at hikes, and lost", EdgesOfTermsTest::anewWithHikesBefore);
        Due.test("one that there is anew: it was lost and struck", EdgesOfTermsTest::anewFromLost);
        Due.test("one that there is anew: it was outside", EdgesOfTermsTest::anewFromOutside);
        Due.test("one that there is anew: each of 15", EdgesOfTermsTest::fifteenAnew);
    }

    private static void minutes() {
        Due.test("for each troop", EdgesOfTermsTest::minutesOfEachTroop);
        Due.test("scouts on a hike whose AWAY minutes went by come home", EdgesOfTermsTest::comesHome);
        Due.test("a hike that begins in a minute has all its minutes before it", EdgesOfTermsTest::hikeBeginsInAMinute);
        Due.test("each lost scout is one minute longer lost", EdgesOfTermsTest::longerLost);
        Due.test("is struck if that is more than PATIENCE minutes", EdgesOfTermsTest::struckBehindPatience);
        Due.test("is struck: by the patience that there is then", EdgesOfTermsTest::struckByNewPatience);
        Due.test("it is not waited for until the gate opens", EdgesOfTermsTest::notWaitedForUntilOpening);
        Due.test("one who was struck is waited for when the gate has opened", EdgesOfTermsTest::waitedForBehindOpening);
        Due.test("one who is still lost then is struck again a minute later", EdgesOfTermsTest::struckAgain);
        Due.test("then the gate opens: in the minute of the strike", EdgesOfTermsTest::opensInTheMinuteOfTheStrike);
    }

    // ---- calls and numbers

    private static void the512thCall() {
        ScoutGates x = Scene.troops(1);
        for (int hike = 0; hike < 255; hike++) {
            Due.is("come " + hike, x.come(0, 0, hike % 2), 1);
            Due.is("pass " + hike, x.pass(30), 0);
        }
        Due.is("the 512th call", x.of(0, 0, Scene.ITS_HIKES), 255);
    }

    private static void noneOnlyWithoutErrors() {
        ScoutGates x = Scene.troops(1);
        Due.is("opensIn of no troop", x.opensIn(1), Scene.NO_SUCH);
        Due.is("opensIn of a troop", x.opensIn(0), Scene.NONE);
    }

    private static void numberedFrom0() {
        ScoutGates x = new ScoutGates();
        Due.is("the first troop", x.troop(1), 0);
        Due.is("its first scout", x.of(0, 0, 0), Scene.HOME);
        Due.is("no scout 1", x.of(0, 1, 0), Scene.NO_SUCH);
        Due.is("no scout -1", x.of(0, -1, 0), Scene.NO_SUCH);
        Due.is("the first slot", x.save(0), 1);
        Due.is("the first setting", x.set(0, 20), 20);
    }

    private static void bitMasks() {
        ScoutGates x = Scene.troops(16);
        Due.is("all 16", x.waitsFor(0), 65535);
        Scene.come(x, Scene.RED, 0, 15);
        Due.is("the first and the last", Scene.set(x, Scene.INSIDE), 32769);
        Due.is("all others", x.waitsFor(0), 32766);
    }

    // ---- settings

    private static void firstPatience() {
        ScoutGates x = Scene.troops(2);
        x.lose(0, 1);
        x.pass(20);
        Due.is("20 minutes", x.ofTroop(0, Scene.STRUCK), 0);
        x.pass(1);
        Due.is("21 minutes", x.ofTroop(0, Scene.STRUCK), 2);
        Due.is("told so", x.count(6), 20);
    }

    private static void leastPatience() {
        ScoutGates x = Scene.troops(2);
        x.set(Scene.PATIENCE, 0);
        x.lose(0, 1);
        Due.is("at once", x.ofTroop(0, Scene.STRUCK), 0);
        x.pass(1);
        Due.is("a minute", x.ofTroop(0, Scene.STRUCK), 2);
    }

    private static void mostPatience() {
        ScoutGates x = Scene.troops(2);
        x.set(Scene.PATIENCE, 99);
        x.lose(0, 1);
        x.pass(99);
        Due.is("99 minutes", x.ofTroop(0, Scene.STRUCK), 0);
        x.pass(1);
        Due.is("100 minutes", x.ofTroop(0, Scene.STRUCK), 2);
    }

    private static void firstAway() {
        ScoutGates x = Scene.troops(1);
        Scene.come(x, Scene.RED, 0);
        Due.is("minutes", x.of(0, 0, Scene.MINUTES), 30);
        Due.is("told so", x.count(7), 30);
    }

    private static void leastAway() {
        ScoutGates x = Scene.troops(1);
        x.set(Scene.AWAY, 1);
        Scene.come(x, Scene.RED, 0);
        Due.is("away", Scene.how(x, 0), Scene.ON_HIKE);
        x.pass(1);
        Due.is("home", Scene.how(x, 0), Scene.HOME);
    }

    private static void mostAway() {
        ScoutGates x = Scene.troops(1);
        x.set(Scene.AWAY, 99);
        Scene.come(x, Scene.RED, 0);
        x.pass(98);
        Due.is("away", Scene.how(x, 0), Scene.ON_HIKE);
        x.pass(1);
        Due.is("home", Scene.how(x, 0), Scene.HOME);
    }

    // ---- troops

    private static void fiveTroops() {
        ScoutGates x = Scene.troops(1, 1, 1, 1);
        Due.is("the fifth", x.troop(1), 4);
        Due.is("the sixth", x.troop(1), Scene.TOO_MANY);
        Due.is("the fifth opens", x.come(4, 0, Scene.RED), 1);
        Due.is("no sixth", x.come(5, 0, Scene.RED), Scene.NO_SUCH);
    }

    private static void orderOfTroops() {
        ScoutGates x = Scene.troops(5, 3, 4, 1, 2);
        int[] sizes = {5, 3, 4, 1, 2};
        for (int troop = 0; troop < 5; troop++) {
            Due.is("size of " + troop, x.ofTroop(troop, Scene.SIZE), sizes[troop]);
        }
    }

    private static void sizeOf1() {
        ScoutGates x = new ScoutGates();
        Due.is("comes", x.troop(1), 0);
        Due.is("its one scout opens the gate", Scene.come(x, Scene.RED, 0), 1);
        Due.is("there is no second one", Scene.come(x, Scene.RED, 1), Scene.NO_SUCH);
    }

    private static void sizeOf16() {
        ScoutGates x = new ScoutGates();
        Due.is("comes", x.troop(16), 0);
        for (int scout = 0; scout < 15; scout++) {
            Due.is("scout " + scout, Scene.come(x, Scene.RED, scout), 0);
        }
        Due.is("its 16th scout opens the gate", Scene.come(x, Scene.RED, 15), 1);
        Due.is("there is no 17th one", Scene.come(x, Scene.RED, 16), Scene.NO_SUCH);
    }

    private static void scoutsBelowTheSize() {
        ScoutGates x = Scene.troops(3);
        Due.is("scout size - 1", x.why(0, 2, 0), 0);
        Due.is("scout size", x.why(0, 3, 0), Scene.NO_SUCH);
        Due.is("scout 0", x.why(0, 0, 0), 0);
        Due.is("scout -1", x.why(0, -1, 0), Scene.NO_SUCH);
    }

    private static void firstColour() {
        Due.is("colour", Scene.troops(2).ofTroop(0, Scene.COLOUR), 0);
    }

    private static void firstNextSize() {
        ScoutGates x = Scene.troops(2);
        Due.is("next size", x.ofTroop(0, Scene.NEXT_SIZE), 2);
        Scene.come(x, Scene.RED, 0, 1);
        Due.is("the size behind an opening", x.ofTroop(0, Scene.SIZE), 2);
    }

    private static void firstAtHome() {
        ScoutGates x = Scene.troops(16);
        Due.is("at home", Scene.set(x, Scene.HOME), 65535);
        Due.is("the last one", Scene.how(x, 15), Scene.HOME);
    }

    /** Scouts 0 and 1 are on a hike of 30 minutes, and the size is 1. */
    private static ScoutGates shrunkOnAHike() {
        ScoutGates x = Scene.troops(2);
        x.resize(0, 1);
        Scene.come(x, Scene.RED, 0, 1);
        return x;
    }

    private static void noneOnAHike() {
        ScoutGates x = shrunkOnAHike();
        Due.is("come", x.come(0, 1, 1), Scene.NO_SUCH);
        Due.is("lose", x.lose(0, 1), Scene.NO_SUCH);
        Due.is("find", x.find(0, 1), Scene.NO_SUCH);
        Due.is("why", x.why(0, 1, 1), Scene.NO_SUCH);
        Due.is("waitsFor", x.waitsFor(0), 1);
        Due.is("count down", x.ofTroop(0, Scene.COUNT_DOWN), 1);
        Due.is("in a text", Scene.carryOut(x, "l0.1"), 0);
    }

    private static void noneOnAHikeButForOf() {
        ScoutGates x = shrunkOnAHike();
        Due.is("how", x.of(0, 1, Scene.HOW), Scene.ON_HIKE);
        Due.is("minutes", x.of(0, 1, Scene.MINUTES), 30);
        Due.is("hikes", x.of(0, 1, Scene.ITS_HIKES), 1);
        Due.is("struck", x.of(0, 1, Scene.IS_STRUCK), 0);
        Due.is("wrong what", x.of(0, 1, 4), Scene.BAD_VALUE);
    }

    private static void noneOnAHikeButForNumbers() {
        ScoutGates x = shrunkOnAHike();
        Due.is("the set", Scene.set(x, Scene.ON_HIKE), 3);
        Due.is("the number", x.count(3), 2);
        x.pass(30);
        Due.is("no set behind it", Scene.set(x, Scene.ON_HIKE), 0);
        Due.is("no number behind it", x.count(3), 0);
    }

    private static void lastBelowTheSizeOnAHike() {
        ScoutGates x = shrunkOnAHike();
        Due.is("come", x.come(0, 0, 1), Scene.NOT_POSSIBLE);
        Due.is("lose", x.lose(0, 0), Scene.NOT_POSSIBLE);
        Due.is("find", x.find(0, 0), Scene.NOT_POSSIBLE);
        Due.is("why", x.why(0, 0, 1), 1);
    }

    private static void fullCountDown() {
        ScoutGates x = Scene.troops(4);
        Scene.come(x, Scene.BLUE, 1);
        x.lose(0, 2);
        Due.is("at home, outside, lost", x.ofTroop(0, Scene.COUNT_DOWN), 4);
        ScoutGates y = Scene.troops(2);
        Scene.come(y, Scene.RED, 0, 1);
        Due.is("on a hike", y.ofTroop(0, Scene.COUNT_DOWN), 2);
    }

    private static void countDownWithoutInsideAndStruck() {
        ScoutGates x = Scene.struck(5, 3);
        Scene.come(x, Scene.RED, 0, 1);
        Due.is("two inside, one struck", x.ofTroop(0, Scene.COUNT_DOWN), 2);
        Due.is("for whom", x.waitsFor(0), 0b10100);
    }

    private static void insideAndStruck() {
        ScoutGates x = Scene.struck(3, 0);
        Due.is("struck", x.ofTroop(0, Scene.COUNT_DOWN), 2);
        Scene.come(x, Scene.RED, 0);
        Due.is("struck and inside", x.ofTroop(0, Scene.COUNT_DOWN), 2);
    }

    private static void countDownOf0() {
        ScoutGates x = Scene.struck(2, 0, 1);
        Due.is("all are struck", x.ofTroop(0, Scene.COUNT_DOWN), 0);
        Due.is("for nobody", x.waitsFor(0), 0);
    }

    // ---- coming

    private static void inside() {
        ScoutGates x = Scene.troops(2);
        Scene.come(x, Scene.RED, 0);
        Due.is("how", Scene.how(x, 0), Scene.INSIDE);
        Due.is("count down", x.ofTroop(0, Scene.COUNT_DOWN), 1);
        Due.is("not early", x.count(Scene.EARLY), 0);
    }

    private static void outside() {
        ScoutGates x = Scene.troops(2);
        Scene.come(x, Scene.BLUE, 0);
        Due.is("how", Scene.how(x, 0), Scene.OUTSIDE);
        Due.is("count down", x.ofTroop(0, Scene.COUNT_DOWN), 2);
        Due.is("early", x.count(Scene.EARLY), 1);
    }

    private static void coloursTurned() {
        ScoutGates x = Scene.troops(2);
        Scene.come(x, Scene.RED, 0, 1);
        x.pass(30);
        Scene.come(x, Scene.BLUE, 0);
        Scene.come(x, Scene.RED, 1);
        Due.is("of its colour", Scene.how(x, 0), Scene.INSIDE);
        Due.is("of the other", Scene.how(x, 1), Scene.OUTSIDE);
    }

    private static void onAHikeCannotCome() {
        ScoutGates x = Scene.troops(1);
        Scene.come(x, Scene.RED, 0);
        x.pass(29);
        Due.is("for its last minute", x.come(0, 0, Scene.BLUE), Scene.NOT_POSSIBLE);
        x.pass(1);
        Due.is("home", x.come(0, 0, Scene.BLUE), 1);
    }

    private static void insideCannotCome() {
        ScoutGates x = Scene.troops(2);
        Scene.come(x, Scene.RED, 0);
        Due.is("its colour", x.come(0, 0, Scene.RED), Scene.NOT_POSSIBLE);
        Due.is("the other", x.come(0, 0, Scene.BLUE), Scene.NOT_POSSIBLE);
    }

    private static void outsideCannotCome() {
        ScoutGates x = Scene.troops(2);
        Scene.come(x, Scene.BLUE, 0);
        Due.is("its colour", x.come(0, 0, Scene.BLUE), Scene.NOT_POSSIBLE);
        Due.is("the other", x.come(0, 0, Scene.RED), Scene.NOT_POSSIBLE);
        Due.is("early once", x.count(Scene.EARLY), 1);
    }

    private static void lostCanCome() {
        ScoutGates x = Scene.troops(2);
        x.lose(0, 0);
        x.pass(5);
        Due.is("comes", x.come(0, 0, Scene.RED), 0);
        Due.is("how", Scene.how(x, 0), Scene.INSIDE);
        Due.is("minutes", x.of(0, 0, Scene.MINUTES), 0);
        Due.is("lost ones", x.count(4), 0);
        Due.is("cannot be found again", x.find(0, 0), Scene.NOT_POSSIBLE);
    }

    private static void lostCanComeEarly() {
        ScoutGates x = Scene.troops(2);
        x.lose(0, 0);
        x.pass(5);
        Due.is("comes", x.come(0, 0, Scene.BLUE), 0);
        Due.is("how", Scene.how(x, 0), Scene.OUTSIDE);
        Due.is("minutes", x.of(0, 0, Scene.MINUTES), 0);
        Due.is("lost ones", x.count(4), 0);
    }

    // ---- opening

    private static void notAtCountDown1() {
        ScoutGates x = Scene.troops(3);
        Due.is("two of three", Scene.come(x, Scene.RED, 0, 2), 0);
        Due.is("count down", x.ofTroop(0, Scene.COUNT_DOWN), 1);
        Due.is("nor in a minute", x.pass(1), 0);
        Due.is("the third", Scene.come(x, Scene.RED, 1), 1);
    }

    private static void nobodyInside() {
        ScoutGates x = Scene.struck(1, 0);
        Due.is("comes early", Scene.come(x, Scene.BLUE, 0), 0);
        Due.is("colour", x.ofTroop(0, Scene.COLOUR), 0);
        Due.is("hikes", x.ofTroop(0, Scene.HIKES), 0);
        Due.is("count down", x.ofTroop(0, Scene.COUNT_DOWN), 0);
    }

    private static void nobodyInsideInAMinute() {
        ScoutGates x = Scene.struck(2, 0, 1);
        Due.is("passes", x.pass(9), 0);
        Due.is("colour", x.ofTroop(0, Scene.COLOUR), 0);
        Due.is("still struck", x.ofTroop(0, Scene.STRUCK), 3);
        Due.is("one comes", Scene.come(x, Scene.RED, 1), 1);
    }

    private static void behindNothingElse() {
        ScoutGates x = Scene.troops(2);
        Scene.come(x, Scene.RED, 0);
        x.lose(0, 1);
        x.pass(5);
        x.set(Scene.PATIENCE, 0);
        Due.is("hikes behind set()", x.ofTroop(0, Scene.HIKES), 0);
        x.resize(0, 1);
        Due.is("hikes behind resize()", x.ofTroop(0, Scene.HIKES), 0);
        x.save(0);
        x.restore(0);
        Due.is("hikes behind restore()", x.ofTroop(0, Scene.HIKES), 0);
        x.undo();
        Due.is("hikes behind undo()", x.ofTroop(0, Scene.HIKES), 0);
        Due.is("the next minute", x.pass(1), 1);
    }

    private static void insideGo() {
        ScoutGates x = Scene.troops(3);
        Scene.come(x, Scene.RED, 0, 1, 2);
        Due.is("on a hike", Scene.set(x, Scene.ON_HIKE), 7);
        Due.is("inside", Scene.set(x, Scene.INSIDE), 0);
        Due.is("went", x.ofTroop(0, Scene.WENT), 3);
        Due.is("hikes of each", x.of(0, 0, Scene.ITS_HIKES) + x.of(0, 2, Scene.ITS_HIKES), 2);
    }

    private static void othersStay() {
        ScoutGates x = Scene.struck(4, 1, 2, 3);
        x.find(0, 2);
        x.come(0, 3, Scene.BLUE);
        Due.is("opens", Scene.come(x, Scene.RED, 0), 1);
        Due.is("on a hike", Scene.set(x, Scene.ON_HIKE), 1);
        Due.is("lost", Scene.set(x, Scene.LOST), 2);
        Due.is("at home", Scene.set(x, Scene.HOME), 4);
        Due.is("hikes of those", x.of(0, 1, 2) + x.of(0, 2, 2) + x.of(0, 3, 2), 0);
        Due.is("went", x.ofTroop(0, Scene.WENT), 1);
    }

    private static void awayMinutes() {
        ScoutGates x = Scene.troops(1);
        x.set(Scene.AWAY, 4);
        Scene.come(x, Scene.RED, 0);
        for (int minute = 4; minute >= 1; minute--) {
            Due.is("minutes", x.of(0, 0, Scene.MINUTES), minute);
            Due.is("how", Scene.how(x, 0), Scene.ON_HIKE);
            x.pass(1);
        }
        Due.is("minutes behind it", x.of(0, 0, Scene.MINUTES), 0);
        Due.is("how behind it", Scene.how(x, 0), Scene.HOME);
    }

    private static void colourBecomes1() {
        ScoutGates x = Scene.troops(1, 1);
        Scene.come(x, Scene.RED, 0);
        Due.is("colour", x.ofTroop(0, Scene.COLOUR), 1);
        Due.is("of the other troop", x.ofTroop(1, Scene.COLOUR), 0);
    }

    private static void colourBecomes0() {
        ScoutGates x = Scene.troops(1);
        Scene.come(x, Scene.RED, 0);
        x.pass(30);
        Due.is("opens", Scene.come(x, Scene.BLUE, 0), 1);
        Due.is("colour", x.ofTroop(0, Scene.COLOUR), 0);
    }

    private static void nobodyStruck() {
        ScoutGates x = Scene.struck(4, 1, 2, 3);
        x.find(0, 2);
        x.come(0, 3, Scene.BLUE);
        Due.is("struck before it", x.ofTroop(0, Scene.STRUCK), 14);
        Scene.come(x, Scene.RED, 0);
        Due.is("struck behind it", x.ofTroop(0, Scene.STRUCK), 0);
        Due.is("of a lost one", x.of(0, 1, Scene.IS_STRUCK), 0);
    }

    private static void outsideBecomesInside() {
        ScoutGates x = Scene.struck(3, 0);
        x.come(0, 0, Scene.BLUE);
        Due.is("opens", Scene.come(x, Scene.RED, 1, 2), 1);
        Due.is("how", Scene.how(x, 0), Scene.INSIDE);
        Due.is("outside", Scene.set(x, Scene.OUTSIDE), 0);
        Due.is("count down", x.ofTroop(0, Scene.COUNT_DOWN), 2);
        Due.is("it did not go", x.of(0, 0, Scene.ITS_HIKES), 0);
    }

    private static void opensOnceMore() {
        ScoutGates x = Scene.struck(2, 0);
        x.come(0, 0, Scene.BLUE);
        x.resize(0, 1);
        Due.is("opens", x.come(0, 1, Scene.RED), 2);
        Due.is("hikes", x.ofTroop(0, Scene.HIKES), 2);
        Due.is("went", x.ofTroop(0, Scene.WENT), 2);
        Due.is("colour", x.ofTroop(0, Scene.COLOUR), 0);
        Due.is("on a hike", Scene.set(x, Scene.ON_HIKE), 3);
    }

    private static void opensOnceMoreInAMinute() {
        ScoutGates x = Scene.struck(3, 0);
        x.come(0, 0, Scene.BLUE);
        x.come(0, 1, Scene.RED);
        x.lose(0, 2);
        x.resize(0, 1);
        Due.is("opens", x.pass(1), 2);
        Due.is("hikes", x.ofTroop(0, Scene.HIKES), 2);
        Due.is("on a hike", Scene.set(x, Scene.ON_HIKE), 3);
    }

    private static void notOnceMore() {
        ScoutGates x = Scene.struck(3, 0);
        x.come(0, 0, Scene.BLUE);
        x.resize(0, 2);
        Due.is("opens", Scene.come(x, Scene.RED, 1, 2), 1);
        Due.is("count down", x.ofTroop(0, Scene.COUNT_DOWN), 1);
        Due.is("inside", Scene.set(x, Scene.INSIDE), 1);
    }

    // ---- sizes at openings

    private static void sizeBecomesNext() {
        ScoutGates x = Scene.troops(2);
        x.resize(0, 4);
        Scene.come(x, Scene.RED, 0);
        Due.is("before", x.ofTroop(0, Scene.SIZE), 2);
        Due.is("opens for two", Scene.come(x, Scene.RED, 1), 1);
        Due.is("behind", x.ofTroop(0, Scene.SIZE), 4);
        Due.is("count down", x.ofTroop(0, Scene.COUNT_DOWN), 4);
    }

    /** Troop 0 opens at size 3 for scouts 0 and 1; its scout 2 was struck before, and is as given. */
    private static ScoutGates opensWithoutLast(int howIsLast, int nextSize) {
        ScoutGates x = Scene.struck(3, 2);
        if (howIsLast == Scene.HOME) {
            x.find(0, 2);
        } else if (howIsLast == Scene.OUTSIDE) {
            x.come(0, 2, Scene.BLUE);
        }
        x.resize(0, nextSize);
        Due.is("how it is before", Scene.how(x, 2), howIsLast);
        Due.is("opens", Scene.come(x, Scene.RED, 0, 1), 1);
        return x;
    }

    private static void noneFromHome() {
        ScoutGates x = opensWithoutLast(Scene.HOME, 2);
        Due.is("how", Scene.how(x, 2), Scene.NO_SUCH);
        Due.is("at home", Scene.set(x, Scene.HOME), 0);
    }

    private static void noneFromOutside() {
        ScoutGates x = opensWithoutLast(Scene.OUTSIDE, 2);
        Due.is("how", Scene.how(x, 2), Scene.NO_SUCH);
        Due.is("inside and outside", Scene.set(x, Scene.INSIDE) + Scene.set(x, Scene.OUTSIDE), 0);
    }

    private static void noneFromLost() {
        ScoutGates x = opensWithoutLast(Scene.LOST, 2);
        Due.is("how", Scene.how(x, 2), Scene.NO_SUCH);
        Due.is("lost ones", Scene.set(x, Scene.LOST) + x.count(4), 0);
        x.pass(5);
        Due.is("struck ones later", x.ofTroop(0, Scene.STRUCK), 0);
    }

    private static void staysAtHome() {
        ScoutGates x = opensWithoutLast(Scene.HOME, 3);
        Due.is("how", Scene.how(x, 2), Scene.HOME);
        Due.is("at home", Scene.set(x, Scene.HOME), 4);
    }

    private static void staysFromOutside() {
        ScoutGates x = opensWithoutLast(Scene.OUTSIDE, 3);
        Due.is("how", Scene.how(x, 2), Scene.INSIDE);
    }

    private static void staysLost() {
        ScoutGates x = opensWithoutLast(Scene.LOST, 3);
        Due.is("how", Scene.how(x, 2), Scene.LOST);
        Due.is("minutes", x.of(0, 2, Scene.MINUTES), 1);
    }

    private static void noneWhenHome() {
        ScoutGates x = shrunkOnAHike();
        x.pass(29);
        Due.is("before", Scene.how(x, 1), Scene.ON_HIKE);
        x.pass(1);
        Due.is("behind", Scene.how(x, 1), Scene.NO_SUCH);
        Due.is("at home", Scene.set(x, Scene.HOME), 1);
    }

    /**
     * Scout 2 is alone on a hike of 30 minutes and none, as the size is 2. Scouts 0 and 1 wait: 0 inside, 1 lost for
     * a minute. The gate opens for 0 when so many minutes went by as the patience is, and the size becomes nextSize.
     */
    private static ScoutGates lastIsAwayAlone(int patience, int nextSize) {
        ScoutGates x = Scene.struck(3, 0, 1);
        x.resize(0, 2);
        Due.is("opens for one", Scene.come(x, Scene.RED, 2), 1);
        x.set(Scene.PATIENCE, patience);
        Scene.come(x, Scene.BLUE, 0);
        x.resize(0, nextSize);
        return x;
    }

    private static void sizeIsAboveAgain() {
        ScoutGates x = lastIsAwayAlone(10, 3);
        Due.is("none", x.why(0, 2, 0), Scene.NO_SUCH);
        Due.is("opens", x.pass(10), 1);
        Due.is("a scout again, on the hike", x.why(0, 2, 0), 1);
        Due.is("its minutes", x.of(0, 2, Scene.MINUTES), 20);
        x.pass(20);
        Due.is("home", Scene.how(x, 2), Scene.HOME);
        Due.is("hikes", x.of(0, 2, Scene.ITS_HIKES), 1);
    }

    private static void sizeIsItsNumber() {
        ScoutGates x = lastIsAwayAlone(10, 2);
        Due.is("opens", x.pass(10), 1);
        Due.is("none", x.why(0, 2, 0), Scene.NO_SUCH);
        x.pass(19);
        Due.is("on the hike", Scene.how(x, 2), Scene.ON_HIKE);
        x.pass(1);
        Due.is("none, and home", Scene.how(x, 2), Scene.NO_SUCH);
    }

    private static void sizeIsAboveTooLate() {
        ScoutGates x = lastIsAwayAlone(30, 3);
        Due.is("not before", x.pass(29), 0);
        Due.is("opens when it comes home", x.pass(1), 1);
        Due.is("anew, at home", Scene.how(x, 2), Scene.HOME);
        Due.is("anew, without hikes", x.of(0, 2, Scene.ITS_HIKES), 0);
    }

    private static void sizeIsAboveJustInTime() {
        ScoutGates x = lastIsAwayAlone(29, 3);
        Due.is("opens a minute before", x.pass(29), 1);
        Due.is("on the hike", Scene.how(x, 2), Scene.ON_HIKE);
        x.pass(1);
        Due.is("home", Scene.how(x, 2), Scene.HOME);
        Due.is("hikes", x.of(0, 2, Scene.ITS_HIKES), 1);
    }

    private static void anew() {
        ScoutGates x = shrunkOnAHike();
        x.pass(30);
        x.resize(0, 2);
        Due.is("opens", Scene.come(x, Scene.BLUE, 0), 1);
        Due.is("how", Scene.how(x, 1), Scene.HOME);
        Due.is("hikes", x.of(0, 1, Scene.ITS_HIKES), 0);
        Due.is("hikes of the one who was there", x.of(0, 0, Scene.ITS_HIKES), 2);
        Due.is("went, all together", x.ofTroop(0, Scene.WENT), 3);
    }

    private static void anewFromLost() {
        ScoutGates x = opensWithoutLast(Scene.LOST, 2);
        x.pass(30);
        x.resize(0, 3);
        Due.is("opens again", Scene.come(x, Scene.BLUE, 0, 1), 1);
        Due.is("how", Scene.how(x, 2), Scene.HOME);
        Due.is("minutes", x.of(0, 2, Scene.MINUTES), 0);
        Due.is("struck", x.of(0, 2, Scene.IS_STRUCK), 0);
    }

    private static void anewWithHikesBefore() {
        ScoutGates x = Scene.troops(2);
        x.set(Scene.PATIENCE, 0);
        Scene.come(x, Scene.RED, 0, 1);
        x.pass(30);
        x.lose(0, 1);
        x.pass(1);
        x.resize(0, 1);
        Due.is("opens without it", Scene.come(x, Scene.BLUE, 0), 1);
        Due.is("it is none", Scene.how(x, 1), Scene.NO_SUCH);
        x.pass(30);
        x.resize(0, 2);
        Due.is("opens, and it is there", Scene.come(x, Scene.RED, 0), 1);
        Due.is("hikes", x.of(0, 1, Scene.ITS_HIKES), 0);
    }

    /** Scouts 1 to 15, each with a hike behind it, are lost when the size becomes 1, and 16 again behind that. */
    private static void fifteenAnew() {
        ScoutGates x = Scene.sixteenOnAHike();
        x.pass(30);
        x.set(Scene.PATIENCE, 0);
        for (int scout = 1; scout < 16; scout++) {
            x.lose(0, scout);
        }
        x.pass(1);
        x.resize(0, 1);
        Due.is("opens without them", Scene.come(x, Scene.BLUE, 0), 1);
        x.pass(30);
        x.resize(0, 16);
        Due.is("opens, and they are there", Scene.come(x, Scene.RED, 0), 1);
        for (int scout = 1; scout < 16; scout++) {
            Due.is("how " + scout, Scene.how(x, scout), Scene.HOME);
            Due.is("minutes of " + scout, x.of(0, scout, Scene.MINUTES), 0);
            Due.is("hikes of " + scout, x.of(0, scout, Scene.ITS_HIKES), 0);
        }
    }

    private static void anewFromOutside() {
        ScoutGates x = opensWithoutLast(Scene.OUTSIDE, 2);
        x.pass(30);
        x.resize(0, 3);
        Due.is("opens again", Scene.come(x, Scene.BLUE, 0, 1), 1);
        Due.is("how", Scene.how(x, 2), Scene.HOME);
        Due.is("count down", x.ofTroop(0, Scene.COUNT_DOWN), 3);
    }

    // ---- minutes

    private static void minutesOfEachTroop() {
        ScoutGates x = Scene.troops(1, 1, 1, 1, 1);
        for (int troop = 0; troop < 5; troop++) {
            x.set(Scene.AWAY, 10 + troop);
            x.come(troop, 0, Scene.RED);
        }
        x.pass(10);
        for (int troop = 0; troop < 5; troop++) {
            Due.is("minutes of " + troop, x.of(troop, 0, Scene.MINUTES), troop);
        }
    }

    private static void comesHome() {
        ScoutGates x = Scene.troops(2);
        Scene.come(x, Scene.RED, 0, 1);
        x.pass(30);
        Due.is("at home", Scene.set(x, Scene.HOME), 3);
        Due.is("they are waited for", x.waitsFor(0), 3);
        Due.is("they can come", Scene.come(x, Scene.BLUE, 0, 1), 1);
    }

    private static void hikeBeginsInAMinute() {
        ScoutGates x = Scene.troops(2);
        x.set(Scene.PATIENCE, 0);
        x.set(Scene.AWAY, 1);
        Scene.come(x, Scene.RED, 0);
        x.lose(0, 1);
        Due.is("opens", x.pass(1), 1);
        Due.is("how", Scene.how(x, 0), Scene.ON_HIKE);
        Due.is("minutes", x.of(0, 0, Scene.MINUTES), 1);
        x.pass(1);
        Due.is("home", Scene.how(x, 0), Scene.HOME);
    }

    private static void longerLost() {
        ScoutGates x = Scene.troops(3);
        x.lose(0, 0);
        x.pass(1);
        x.lose(0, 1);
        x.pass(5);
        Due.is("the first", x.of(0, 0, Scene.MINUTES), 6);
        Due.is("the second", x.of(0, 1, Scene.MINUTES), 5);
        Due.is("who is home", x.of(0, 2, Scene.MINUTES), 0);
        Scene.pass(x, 200);
        Due.is("beyond the patience", x.of(0, 0, Scene.MINUTES), 206);
    }

    private static void struckBehindPatience() {
        ScoutGates x = Scene.troops(2);
        x.set(Scene.PATIENCE, 3);
        x.lose(0, 0);
        x.pass(3);
        Due.is("as many", x.of(0, 0, Scene.IS_STRUCK), 0);
        x.pass(1);
        Due.is("more", x.of(0, 0, Scene.IS_STRUCK), 1);
        Due.is("still lost", Scene.how(x, 0), Scene.LOST);
    }

    private static void struckByNewPatience() {
        ScoutGates x = Scene.troops(2);
        x.lose(0, 0);
        x.pass(10);
        x.set(Scene.PATIENCE, 11);
        x.pass(1);
        Due.is("as many", x.of(0, 0, Scene.IS_STRUCK), 0);
        x.set(Scene.PATIENCE, 5);
        Due.is("not at once", x.of(0, 0, Scene.IS_STRUCK), 0);
        x.pass(1);
        Due.is("a minute later", x.of(0, 0, Scene.IS_STRUCK), 1);
        x.set(Scene.PATIENCE, 99);
        x.pass(1);
        Due.is("it stays struck", x.of(0, 0, Scene.IS_STRUCK), 1);
    }

    private static void notWaitedForUntilOpening() {
        ScoutGates x = Scene.struck(3, 0);
        Due.is("lost", x.waitsFor(0), 6);
        x.find(0, 0);
        Due.is("found", x.waitsFor(0), 6);
        x.come(0, 0, Scene.BLUE);
        Due.is("outside", x.waitsFor(0), 6);
        x.lose(0, 0);
        Due.is("lost again", x.waitsFor(0), 6);
        Due.is("opens without it", Scene.come(x, Scene.RED, 1, 2), 1);
    }

    private static void waitedForBehindOpening() {
        ScoutGates x = Scene.struck(2, 0);
        x.find(0, 0);
        Scene.come(x, Scene.RED, 1);
        x.pass(30);
        Due.is("for both", x.waitsFor(0), 3);
        Due.is("shut without it", Scene.come(x, Scene.BLUE, 1), 0);
        Due.is("opens with it", Scene.come(x, Scene.BLUE, 0), 1);
    }

    private static void struckAgain() {
        ScoutGates x = Scene.struck(2, 0);
        Due.is("opens without it", Scene.come(x, Scene.RED, 1), 1);
        Due.is("waited for", x.waitsFor(0), 3);
        x.pass(1);
        Due.is("struck again", x.ofTroop(0, Scene.STRUCK), 1);
        Due.is("lost for", x.of(0, 0, Scene.MINUTES), 2);
    }

    private static void opensInTheMinuteOfTheStrike() {
        ScoutGates x = Scene.troops(2);
        x.set(Scene.PATIENCE, 4);
        x.lose(0, 0);
        Scene.come(x, Scene.RED, 1);
        Due.is("not before", x.pass(4), 0);
        Due.is("in that minute", x.pass(1), 1);
        Due.is("minutes of the hike", x.of(0, 1, Scene.MINUTES), 30);
        Due.is("nobody is struck any more", x.ofTroop(0, Scene.STRUCK), 0);
    }
}
