/** Promises 1 to 8 of ../shared/DOC.md, a new object and the changes: a test for each edge. */
public final class EdgesOfChangesTest {
    public static void main(String[] args) {
        newObject();
        set();
        troop();
        resize();
        come();
        lose();
        find();
        pass();
        Due.end();
    }

    private static void newObject() {
        Due.test("1: Creates gates without troops", EdgesOfChangesTest::withoutTroops);
        Due.test("1: each object on its own", EdgesOfChangesTest::onItsOwn);
    }

    private static void set() {
        Due.test("2: hikes that began last as they did, with a longer AWAY",
            EdgesOfChangesTest::hikesLastWithLongerAway);
        Due.test("2: hikes that began last as they did, with a shorter AWAY",
            EdgesOfChangesTest::hikesLastWithShorterAway);
        Due.test("2: Returns the previous value", EdgesOfChangesTest::previousValue);
        Due.test("2: BAD_VALUE if there is no such setting, below", EdgesOfChangesTest::noSettingBelow);
        Due.test("2: BAD_VALUE if there is no such setting, above", EdgesOfChangesTest::noSettingAbove);
        Due.test("2: PATIENCE from 0", EdgesOfChangesTest::leastPatience);
        Due.test("2: PATIENCE to 99", EdgesOfChangesTest::mostPatience);
        Due.test("2: BAD_VALUE for PATIENCE below 0", EdgesOfChangesTest::patienceTooSmall);
        Due.test("2: BAD_VALUE for PATIENCE above 99", EdgesOfChangesTest::patienceTooLarge);
        Due.test("2: AWAY from 1", EdgesOfChangesTest::leastAway);
        Due.test("2: AWAY to 99", EdgesOfChangesTest::mostAway);
        Due.test("2: BAD_VALUE for AWAY below 1", EdgesOfChangesTest::awayTooSmall);
        Due.test("2: BAD_VALUE for AWAY above 99", EdgesOfChangesTest::awayTooLarge);
    }

    private static void troop() {
        Due.test("3: size from 1", EdgesOfChangesTest::leastSize);
        Due.test("3: size to 16", EdgesOfChangesTest::mostSize);
        Due.test("3: BAD_VALUE if size is below 1", EdgesOfChangesTest::sizeTooSmall);
        Due.test("3: BAD_VALUE if size is above 16", EdgesOfChangesTest::sizeTooLarge);
        Due.test("3: Returns its number, up to the fifth", EdgesOfChangesTest::numbersOfFive);
        Due.test("3: TOO_MANY if there are 5 troops", EdgesOfChangesTest::sixthTroop);
        Due.test("3: BAD_VALUE before TOO_MANY", EdgesOfChangesTest::badSixthTroop);
        Due.test("3: A troop comes, in the place of one that waited", EdgesOfChangesTest::troopInPlaceOfOneWaiting);
        Due.test("3: A troop comes, in the place of one on a hike", EdgesOfChangesTest::troopInPlaceOfOneOnAHike);
    }

    private static void resize() {
        Due.test("4: for the next hike: not for the one of now", EdgesOfChangesTest::resizeForTheNextHike);
        Due.test("4: size from 1", EdgesOfChangesTest::resizeTo1);
        Due.test("4: size to 16", EdgesOfChangesTest::resizeTo16);
        Due.test("4: Returns the previous size for the next hike", EdgesOfChangesTest::previousNextSize);
        Due.test("4: NO_SUCH if there is no such troop", EdgesOfChangesTest::resizeOfNoTroop);
        Due.test("4: BAD_VALUE if size is below 1", EdgesOfChangesTest::resizeTooSmall);
        Due.test("4: BAD_VALUE if size is above 16", EdgesOfChangesTest::resizeTooLarge);
        Due.test("4: NO_SUCH before BAD_VALUE", EdgesOfChangesTest::badResizeOfNoTroop);
    }

    private static void come() {
        Due.test("5: Returns how often the gate opens by that: 0", EdgesOfChangesTest::opensNever);
        Due.test("5: Returns how often the gate opens by that: 1", EdgesOfChangesTest::opensOnce);
        Due.test("5: Returns how often the gate opens by that: 2", EdgesOfChangesTest::opensTwice);
        Due.test("5: NO_SUCH if there is no such troop", EdgesOfChangesTest::comeToNoTroop);
        Due.test("5: NO_SUCH if there is no such scout", EdgesOfChangesTest::noScoutComes);
        Due.test("5: BAD_VALUE if colour is neither", EdgesOfChangesTest::comeWithNoColour);
        Due.test("5: NOT_POSSIBLE if why() is 1", EdgesOfChangesTest::comeFromHike);
        Due.test("5: NOT_POSSIBLE if why() is 2", EdgesOfChangesTest::comeFromInside);
        Due.test("5: NOT_POSSIBLE if why() is 3", EdgesOfChangesTest::comeFromOutside);
        Due.test("5: it can come if why() is 4", EdgesOfChangesTest::comeEarly);
        Due.test("5: NO_SUCH before BAD_VALUE", EdgesOfChangesTest::noScoutComesWithNoColour);
        Due.test("5: BAD_VALUE before NOT_POSSIBLE", EdgesOfChangesTest::comeFromInsideWithNoColour);
    }

    private static void lose() {
        Due.test("6: A scout who is at home is lost", EdgesOfChangesTest::loseFromHome);
        Due.test("6: A scout who is inside is lost", EdgesOfChangesTest::loseFromInside);
        Due.test("6: A scout who is outside is lost", EdgesOfChangesTest::loseFromOutside);
        Due.test("6: is lost (0 minutes long)", EdgesOfChangesTest::lostForNoTime);
        Due.test("6: lost (0 minutes long), again", EdgesOfChangesTest::lostForNoTimeAgain);
        Due.test("6: Returns the count down of its troop then", EdgesOfChangesTest::countDownBehindLoss);
        Due.test("6: the count down without a struck one: 0", EdgesOfChangesTest::countDownBehindLossOfStruck);
        Due.test("6: NO_SUCH if there is no such troop", EdgesOfChangesTest::loseOfNoTroop);
        Due.test("6: NO_SUCH if there is no such scout", EdgesOfChangesTest::loseNoScout);
        Due.test("6: NOT_POSSIBLE if it is on a hike", EdgesOfChangesTest::loseFromHike);
        Due.test("6: NOT_POSSIBLE if it is lost", EdgesOfChangesTest::loseLost);
    }

    private static void find() {
        Due.test("7: A lost scout is found: it is at home", EdgesOfChangesTest::foundAtHome);
        Due.test("7: one that is struck stays struck until the gate opens", EdgesOfChangesTest::foundStaysStruck);
        Due.test("7: one that is not struck is not struck by it", EdgesOfChangesTest::foundNotStruck);
        Due.test("7: Returns how many minutes it was lost: 0", EdgesOfChangesTest::foundAtOnce);
        Due.test("7: Returns how many minutes it was lost: more than PATIENCE", EdgesOfChangesTest::foundLate);
        Due.test("7: NO_SUCH if there is no such troop", EdgesOfChangesTest::findOfNoTroop);
        Due.test("7: NO_SUCH if there is no such scout", EdgesOfChangesTest::findNoScout);
        Due.test("7: NOT_POSSIBLE if it is at home", EdgesOfChangesTest::findAtHome);
        Due.test("7: NOT_POSSIBLE if it is inside", EdgesOfChangesTest::findInside);
        Due.test("7: NOT_POSSIBLE if it is outside", EdgesOfChangesTest::findOutside);
        Due.test("7: NOT_POSSIBLE if it is on a hike", EdgesOfChangesTest::findOnHike);
        Due.test("7: NOT_POSSIBLE if it was found before", EdgesOfChangesTest::findTwice);
    }

    private static void pass() {
        Due.test("8: minutes from 1", EdgesOfChangesTest::passOne);
        Due.test("8: minutes to 99", EdgesOfChangesTest::passMost);
        Due.test("8: BAD_VALUE if minutes is below 1", EdgesOfChangesTest::passTooFew);
        Due.test("8: BAD_VALUE if minutes is above 99", EdgesOfChangesTest::passTooMany);
        Due.test("8: Returns how often gates open in them: 0", EdgesOfChangesTest::noGateOpens);
        Due.test("8: Returns how often gates open in them, of all troops", EdgesOfChangesTest::allGatesOpen);
        Due.test("8: Returns how often gates open in them, of one troop in two minutes",
            EdgesOfChangesTest::oneGateTwice);
        Due.test("8: up to 9999 minutes", EdgesOfChangesTest::upTo9999);
        Due.test("8: NOT_POSSIBLE if there would be more than 9999 minutes, by 1", EdgesOfChangesTest::moreThan9999);
        Due.test("8: NOT_POSSIBLE: then not a minute passes", EdgesOfChangesTest::noMinuteOfThem);
        Due.test("8: BAD_VALUE before NOT_POSSIBLE", EdgesOfChangesTest::badMinutesAtTheEnd);
    }

    // ---- 1: a new object

    private static void withoutTroops() {
        ScoutGates x = new ScoutGates();
        Due.is("troops", x.count(1), 0);
        Due.is("no troop 0", x.ofTroop(0, Scene.SIZE), Scene.NO_SUCH);
        Due.is("no hikes", x.count(2), 0);
        Due.is("nothing to undo", x.undo(), Scene.NOT_POSSIBLE);
        Due.is("no pad", x.count(Scene.LENGTH_OF_PAD), 0);
        Due.is("nothing saved in 0", x.restore(0), Scene.NOT_POSSIBLE);
        Due.is("nothing saved in 1", x.restore(1), Scene.NOT_POSSIBLE);
        Due.is("time passes without troops", x.pass(99), 0);
    }

    private static void onItsOwn() {
        ScoutGates x = Scene.troops(1, 1);
        ScoutGates y = new ScoutGates();
        x.put('n');
        x.set(Scene.PATIENCE, 1);
        Due.is("troops", y.count(1), 0);
        Due.is("pad", y.count(Scene.LENGTH_OF_PAD), 0);
        Due.is("patience", y.count(6), 20);
        Due.is("changes", y.count(Scene.UNDOS), 0);
    }

    // ---- 2: set

    private static void hikesLastWithLongerAway() {
        ScoutGates x = Scene.troops(1);
        x.set(Scene.AWAY, 5);
        Scene.come(x, Scene.RED, 0);
        x.set(Scene.AWAY, 99);
        x.pass(5);
        Due.is("home", Scene.how(x, 0), Scene.HOME);
        Scene.come(x, Scene.BLUE, 0);
        Due.is("the next hike", x.of(0, 0, Scene.MINUTES), 99);
    }

    private static void hikesLastWithShorterAway() {
        ScoutGates x = Scene.troops(1);
        x.set(Scene.AWAY, 5);
        Scene.come(x, Scene.RED, 0);
        x.set(Scene.AWAY, 1);
        x.pass(4);
        Due.is("away", Scene.how(x, 0), Scene.ON_HIKE);
        x.pass(1);
        Scene.come(x, Scene.BLUE, 0);
        Due.is("the next hike", x.of(0, 0, Scene.MINUTES), 1);
    }

    private static void previousValue() {
        ScoutGates x = new ScoutGates();
        Due.is("patience", x.set(Scene.PATIENCE, 40), 20);
        Due.is("away", x.set(Scene.AWAY, 50), 30);
        Due.is("patience again", x.set(Scene.PATIENCE, 40), 40);
        Due.is("away again", x.set(Scene.AWAY, 50), 50);
    }

    private static void noSettingBelow() {
        Due.is("setting -1", new ScoutGates().set(-1, 5), Scene.BAD_VALUE);
        Due.is("the least setting", new ScoutGates().set(Integer.MIN_VALUE, 5), Scene.BAD_VALUE);
    }

    private static void noSettingAbove() {
        Due.is("setting 2", new ScoutGates().set(2, 5), Scene.BAD_VALUE);
        Due.is("the most setting", new ScoutGates().set(Integer.MAX_VALUE, 5), Scene.BAD_VALUE);
    }

    private static void leastPatience() {
        ScoutGates x = new ScoutGates();
        Due.is("0", x.set(Scene.PATIENCE, 0), 20);
        Due.is("it is 0", x.count(6), 0);
    }

    private static void mostPatience() {
        ScoutGates x = new ScoutGates();
        Due.is("99", x.set(Scene.PATIENCE, 99), 20);
        Due.is("it is 99", x.count(6), 99);
    }

    private static void patienceTooSmall() {
        ScoutGates x = new ScoutGates();
        Due.is("-1", x.set(Scene.PATIENCE, -1), Scene.BAD_VALUE);
        Due.is("least", x.set(Scene.PATIENCE, Integer.MIN_VALUE), Scene.BAD_VALUE);
        Due.is("it stays", x.count(6), 20);
    }

    private static void patienceTooLarge() {
        ScoutGates x = new ScoutGates();
        Due.is("100", x.set(Scene.PATIENCE, 100), Scene.BAD_VALUE);
        Due.is("most", x.set(Scene.PATIENCE, Integer.MAX_VALUE), Scene.BAD_VALUE);
        Due.is("it stays", x.count(6), 20);
    }

    private static void leastAway() {
        ScoutGates x = new ScoutGates();
        Due.is("1", x.set(Scene.AWAY, 1), 30);
        Due.is("it is 1", x.count(7), 1);
    }

    private static void mostAway() {
        ScoutGates x = new ScoutGates();
        Due.is("99", x.set(Scene.AWAY, 99), 30);
        Due.is("it is 99", x.count(7), 99);
    }

    private static void awayTooSmall() {
        ScoutGates x = new ScoutGates();
        Due.is("0", x.set(Scene.AWAY, 0), Scene.BAD_VALUE);
        Due.is("-1", x.set(Scene.AWAY, -1), Scene.BAD_VALUE);
        Due.is("it stays", x.count(7), 30);
    }

    private static void awayTooLarge() {
        ScoutGates x = new ScoutGates();
        Due.is("100", x.set(Scene.AWAY, 100), Scene.BAD_VALUE);
        Due.is("most", x.set(Scene.AWAY, Integer.MAX_VALUE), Scene.BAD_VALUE);
        Due.is("it stays", x.count(7), 30);
    }

    // ---- 3: troop

    private static void leastSize() {
        ScoutGates x = new ScoutGates();
        Due.is("1", x.troop(1), 0);
        Due.is("its size", x.ofTroop(0, Scene.SIZE), 1);
    }

    private static void mostSize() {
        ScoutGates x = new ScoutGates();
        Due.is("16", x.troop(16), 0);
        Due.is("its size", x.ofTroop(0, Scene.SIZE), 16);
    }

    private static void sizeTooSmall() {
        ScoutGates x = new ScoutGates();
        Due.is("0", x.troop(0), Scene.BAD_VALUE);
        Due.is("-1", x.troop(-1), Scene.BAD_VALUE);
        Due.is("least", x.troop(Integer.MIN_VALUE), Scene.BAD_VALUE);
        Due.is("troops", x.count(1), 0);
    }

    private static void sizeTooLarge() {
        ScoutGates x = new ScoutGates();
        Due.is("17", x.troop(17), Scene.BAD_VALUE);
        Due.is("most", x.troop(Integer.MAX_VALUE), Scene.BAD_VALUE);
        Due.is("troops", x.count(1), 0);
    }

    private static void numbersOfFive() {
        ScoutGates x = new ScoutGates();
        for (int number = 0; number < 5; number++) {
            Due.is("troop", x.troop(3), number);
            Due.is("troops", x.count(1), number + 1);
        }
    }

    private static void sixthTroop() {
        ScoutGates x = Scene.troops(1, 1, 1, 1, 1);
        Due.is("the sixth", x.troop(1), Scene.TOO_MANY);
        Due.is("again", x.troop(16), Scene.TOO_MANY);
        Due.is("troops", x.count(1), 5);
    }

    private static void badSixthTroop() {
        ScoutGates x = Scene.troops(1, 1, 1, 1, 1);
        Due.is("size 0", x.troop(0), Scene.BAD_VALUE);
        Due.is("size 17", x.troop(17), Scene.BAD_VALUE);
    }

    private static void troopInPlaceOfOneWaiting() {
        ScoutGates x = new ScoutGates();
        x.save(0);
        x.set(Scene.PATIENCE, 0);
        x.troop(4);
        x.lose(0, 2);
        x.pass(1);
        Scene.come(x, Scene.RED, 0);
        Scene.come(x, Scene.BLUE, 1);
        x.resize(0, 9);
        x.restore(0);
        x.troop(4);
        isLikeANewTroop(x, 4);
    }

    private static void troopInPlaceOfOneOnAHike() {
        ScoutGates x = new ScoutGates();
        x.save(0);
        x.troop(3);
        Scene.come(x, Scene.RED, 0, 1, 2);
        x.restore(0);
        x.troop(3);
        isLikeANewTroop(x, 3);
    }

    private static void isLikeANewTroop(ScoutGates x, int size) {
        ScoutGates y = Scene.troops(size);
        for (int what = 0; what <= 11; what++) {
            Due.is("ofTroop " + what, x.ofTroop(0, what), y.ofTroop(0, what));
        }
        for (int scout = 0; scout < 16; scout++) {
            for (int what = 0; what <= 3; what++) {
                Due.is("of " + scout + ", " + what, x.of(0, scout, what), y.of(0, scout, what));
            }
        }
    }

    // ---- 4: resize

    private static void resizeForTheNextHike() {
        ScoutGates x = Scene.troops(2);
        x.resize(0, 3);
        Due.is("size", x.ofTroop(0, Scene.SIZE), 2);
        Due.is("next size", x.ofTroop(0, Scene.NEXT_SIZE), 3);
        Due.is("no third scout", Scene.come(x, Scene.RED, 2), Scene.NO_SUCH);
        Due.is("opens for two", Scene.come(x, Scene.RED, 0, 1), 1);
        Due.is("a third scout", Scene.how(x, 2), Scene.HOME);
    }

    private static void resizeTo1() {
        ScoutGates x = Scene.troops(4);
        Due.is("1", x.resize(0, 1), 4);
        Due.is("next size", x.ofTroop(0, Scene.NEXT_SIZE), 1);
        Scene.come(x, Scene.RED, 0, 1, 2, 3);
        Due.is("waits for one", x.waitsFor(0), 1);
    }

    private static void resizeTo16() {
        ScoutGates x = Scene.troops(1);
        Due.is("16", x.resize(0, 16), 1);
        Due.is("next size", x.ofTroop(0, Scene.NEXT_SIZE), 16);
        Scene.come(x, Scene.RED, 0);
        Due.is("waits for 16", x.waitsFor(0), 65535);
    }

    private static void previousNextSize() {
        ScoutGates x = Scene.troops(5);
        Due.is("of a new troop", x.resize(0, 7), 5);
        Due.is("not its size", x.resize(0, 8), 7);
        Due.is("to the same", x.resize(0, 8), 8);
    }

    private static void resizeOfNoTroop() {
        ScoutGates x = Scene.troops(5);
        Due.is("troop 1", x.resize(1, 5), Scene.NO_SUCH);
        Due.is("troop -1", x.resize(-1, 5), Scene.NO_SUCH);
        Due.is("troop 5", x.resize(5, 5), Scene.NO_SUCH);
    }

    private static void resizeTooSmall() {
        ScoutGates x = Scene.troops(5);
        Due.is("0", x.resize(0, 0), Scene.BAD_VALUE);
        Due.is("-1", x.resize(0, -1), Scene.BAD_VALUE);
        Due.is("it stays", x.ofTroop(0, Scene.NEXT_SIZE), 5);
    }

    private static void resizeTooLarge() {
        ScoutGates x = Scene.troops(5);
        Due.is("17", x.resize(0, 17), Scene.BAD_VALUE);
        Due.is("most", x.resize(0, Integer.MAX_VALUE), Scene.BAD_VALUE);
        Due.is("it stays", x.ofTroop(0, Scene.NEXT_SIZE), 5);
    }

    private static void badResizeOfNoTroop() {
        Due.is("troop 0, size 0", new ScoutGates().resize(0, 0), Scene.NO_SUCH);
        Due.is("troop -1, size 17", Scene.troops(1).resize(-1, 17), Scene.NO_SUCH);
    }

    // ---- 5: come

    private static void opensNever() {
        ScoutGates x = Scene.troops(2);
        Due.is("the first of two", x.come(0, 0, Scene.RED), 0);
        Due.is("the second, early", x.come(0, 1, Scene.BLUE), 0);
        Due.is("hikes", x.count(2), 0);
    }

    private static void opensOnce() {
        ScoutGates x = Scene.troops(2);
        x.come(0, 1, Scene.RED);
        Due.is("the second of two", x.come(0, 0, Scene.RED), 1);
        Due.is("hikes", x.count(2), 1);
    }

    private static void opensTwice() {
        ScoutGates x = Scene.struck(3, 0, 1);
        x.come(0, 0, Scene.BLUE);
        x.come(0, 1, Scene.BLUE);
        x.resize(0, 2);
        Due.is("the last one", x.come(0, 2, Scene.RED), 2);
        Due.is("hikes", x.count(2), 2);
        Due.is("all are away", Scene.set(x, Scene.ON_HIKE), 7);
    }

    private static void comeToNoTroop() {
        ScoutGates x = Scene.troops(1, 1);
        Due.is("troop 2", x.come(2, 0, Scene.RED), Scene.NO_SUCH);
        Due.is("troop -1", x.come(-1, 0, Scene.RED), Scene.NO_SUCH);
        Due.is("troop 5", x.come(5, 0, Scene.RED), Scene.NO_SUCH);
        Due.is("most troop", x.come(Integer.MAX_VALUE, 0, Scene.RED), Scene.NO_SUCH);
    }

    private static void noScoutComes() {
        ScoutGates x = Scene.troops(3, 16);
        Due.is("scout 3 of three", x.come(0, 3, Scene.RED), Scene.NO_SUCH);
        Due.is("scout -1", x.come(0, -1, Scene.RED), Scene.NO_SUCH);
        Due.is("scout 16 of 16", x.come(1, 16, Scene.RED), Scene.NO_SUCH);
        Due.is("scout 32 of 16", x.come(1, 32, Scene.RED), Scene.NO_SUCH);
        Due.is("least scout", x.come(1, Integer.MIN_VALUE, Scene.RED), Scene.NO_SUCH);
    }

    private static void comeWithNoColour() {
        ScoutGates x = Scene.troops(1);
        Due.is("colour 2", x.come(0, 0, 2), Scene.BAD_VALUE);
        Due.is("colour -1", x.come(0, 0, -1), Scene.BAD_VALUE);
        Due.is("it is at home", Scene.how(x, 0), Scene.HOME);
    }

    private static void comeFromHike() {
        ScoutGates x = Scene.troops(1);
        Scene.come(x, Scene.RED, 0);
        Due.is("why", x.why(0, 0, Scene.BLUE), 1);
        Due.is("comes", x.come(0, 0, Scene.BLUE), Scene.NOT_POSSIBLE);
        Due.is("with the other colour", x.come(0, 0, Scene.RED), Scene.NOT_POSSIBLE);
    }

    private static void comeFromInside() {
        ScoutGates x = Scene.troops(2);
        Scene.come(x, Scene.RED, 0);
        Due.is("why", x.why(0, 0, Scene.RED), 2);
        Due.is("comes", x.come(0, 0, Scene.RED), Scene.NOT_POSSIBLE);
        Due.is("with the other colour", x.come(0, 0, Scene.BLUE), Scene.NOT_POSSIBLE);
    }

    private static void comeFromOutside() {
        ScoutGates x = Scene.troops(2);
        Scene.come(x, Scene.BLUE, 0);
        Due.is("why", x.why(0, 0, Scene.RED), 3);
        Due.is("comes", x.come(0, 0, Scene.RED), Scene.NOT_POSSIBLE);
        Due.is("with the other colour", x.come(0, 0, Scene.BLUE), Scene.NOT_POSSIBLE);
    }

    private static void comeEarly() {
        ScoutGates x = Scene.troops(1);
        Due.is("why", x.why(0, 0, Scene.BLUE), 4);
        Due.is("comes", x.come(0, 0, Scene.BLUE), 0);
        Due.is("early", x.count(Scene.EARLY), 1);
    }

    private static void noScoutComesWithNoColour() {
        ScoutGates x = Scene.troops(1);
        Due.is("no scout", x.come(0, 1, 2), Scene.NO_SUCH);
        Due.is("no troop", x.come(1, 0, -1), Scene.NO_SUCH);
    }

    private static void comeFromInsideWithNoColour() {
        ScoutGates x = Scene.troops(2);
        Scene.come(x, Scene.RED, 0);
        Scene.come(x, Scene.BLUE, 1);
        Due.is("inside", x.come(0, 0, 2), Scene.BAD_VALUE);
        Due.is("outside", x.come(0, 1, -1), Scene.BAD_VALUE);
    }

    // ---- 6: lose

    private static void loseFromHome() {
        ScoutGates x = Scene.troops(2);
        Due.is("lost", x.lose(0, 0), 2);
        Due.is("how", Scene.how(x, 0), Scene.LOST);
        Due.is("at home", Scene.set(x, Scene.HOME), 2);
    }

    private static void loseFromInside() {
        ScoutGates x = Scene.troops(2);
        Scene.come(x, Scene.RED, 0);
        Due.is("lost", x.lose(0, 0), 2);
        Due.is("how", Scene.how(x, 0), Scene.LOST);
        Due.is("inside", Scene.set(x, Scene.INSIDE), 0);
        Due.is("shut without it", Scene.come(x, Scene.RED, 1), 0);
    }

    private static void loseFromOutside() {
        ScoutGates x = Scene.troops(2);
        Scene.come(x, Scene.BLUE, 0);
        Due.is("lost", x.lose(0, 0), 2);
        Due.is("how", Scene.how(x, 0), Scene.LOST);
        Due.is("outside", Scene.set(x, Scene.OUTSIDE), 0);
        Due.is("early, all the same", x.count(Scene.EARLY), 1);
    }

    private static void lostForNoTime() {
        ScoutGates x = Scene.troops(2);
        x.pass(50);
        x.lose(0, 0);
        Due.is("minutes", x.of(0, 0, Scene.MINUTES), 0);
        x.pass(20);
        Due.is("not struck yet", x.of(0, 0, Scene.IS_STRUCK), 0);
    }

    private static void lostForNoTimeAgain() {
        ScoutGates x = Scene.troops(2);
        x.lose(0, 0);
        x.pass(15);
        x.find(0, 0);
        x.lose(0, 0);
        Due.is("found", x.of(0, 0, Scene.MINUTES), 0);
        x.pass(15);
        x.come(0, 0, Scene.RED);
        x.lose(0, 0);
        Due.is("come", x.of(0, 0, Scene.MINUTES), 0);
        x.pass(15);
        Due.is("never struck", x.of(0, 0, Scene.IS_STRUCK), 0);
    }

    private static void countDownBehindLoss() {
        ScoutGates x = Scene.troops(3);
        Scene.come(x, Scene.RED, 0, 1);
        Due.is("from home: as before", x.lose(0, 2), 1);
        Due.is("from inside: one more", x.lose(0, 1), 2);
    }

    private static void countDownBehindLossOfStruck() {
        ScoutGates x = Scene.struck(2, 0, 1);
        Scene.come(x, Scene.BLUE, 0);
        Due.is("both are struck", x.lose(0, 0), 0);
        ScoutGates y = Scene.struck(2, 0);
        Scene.come(y, Scene.RED, 0);
        Due.is("one is", y.lose(0, 0), 1);
    }

    private static void loseOfNoTroop() {
        ScoutGates x = Scene.troops(3);
        Due.is("troop 1", x.lose(1, 0), Scene.NO_SUCH);
        Due.is("troop -1", x.lose(-1, 0), Scene.NO_SUCH);
        Due.is("troop 5", x.lose(5, 0), Scene.NO_SUCH);
    }

    private static void loseNoScout() {
        ScoutGates x = Scene.troops(3);
        Due.is("scout 3", x.lose(0, 3), Scene.NO_SUCH);
        Due.is("scout -1", x.lose(0, -1), Scene.NO_SUCH);
        Due.is("scout 2", x.lose(0, 2), 3);
    }

    private static void loseFromHike() {
        ScoutGates x = Scene.troops(1);
        Scene.come(x, Scene.RED, 0);
        Due.is("on a hike", x.lose(0, 0), Scene.NOT_POSSIBLE);
        x.pass(30);
        Due.is("home", x.lose(0, 0), 1);
    }

    private static void loseLost() {
        ScoutGates x = Scene.troops(1);
        x.lose(0, 0);
        x.pass(3);
        Due.is("lost", x.lose(0, 0), Scene.NOT_POSSIBLE);
        Due.is("its minutes stay", x.of(0, 0, Scene.MINUTES), 3);
    }

    // ---- 7: find

    private static void foundAtHome() {
        ScoutGates x = Scene.troops(2);
        x.lose(0, 1);
        x.pass(4);
        x.find(0, 1);
        Due.is("how", Scene.how(x, 1), Scene.HOME);
        Due.is("minutes", x.of(0, 1, Scene.MINUTES), 0);
        x.pass(50);
        Due.is("never struck", x.of(0, 1, Scene.IS_STRUCK), 0);
    }

    private static void foundStaysStruck() {
        ScoutGates x = Scene.struck(2, 1);
        x.find(0, 1);
        Due.is("struck", x.of(0, 1, Scene.IS_STRUCK), 1);
        x.pass(99);
        Due.is("still struck", x.of(0, 1, Scene.IS_STRUCK), 1);
        Due.is("opens without it", Scene.come(x, Scene.RED, 0), 1);
        Due.is("struck no more", x.of(0, 1, Scene.IS_STRUCK), 0);
    }

    private static void foundNotStruck() {
        ScoutGates x = Scene.troops(2);
        x.lose(0, 1);
        x.pass(20);
        x.find(0, 1);
        x.pass(1);
        Due.is("not struck", x.of(0, 1, Scene.IS_STRUCK), 0);
        Due.is("waited for", x.waitsFor(0), 3);
    }

    private static void foundAtOnce() {
        ScoutGates x = Scene.troops(2);
        x.lose(0, 1);
        Due.is("0 minutes", x.find(0, 1), 0);
    }

    private static void foundLate() {
        ScoutGates x = Scene.troops(2);
        x.lose(0, 1);
        Scene.pass(x, 300);
        Due.is("300 minutes", x.find(0, 1), 300);
    }

    private static void findOfNoTroop() {
        ScoutGates x = Scene.troops(3);
        Due.is("troop 1", x.find(1, 0), Scene.NO_SUCH);
        Due.is("troop -1", x.find(-1, 0), Scene.NO_SUCH);
        Due.is("troop 5", x.find(5, 0), Scene.NO_SUCH);
    }

    private static void findNoScout() {
        ScoutGates x = Scene.troops(3);
        Due.is("scout 3", x.find(0, 3), Scene.NO_SUCH);
        Due.is("scout -1", x.find(0, -1), Scene.NO_SUCH);
        x.lose(0, 2);
        Due.is("scout 2", x.find(0, 2), 0);
    }

    private static void findAtHome() {
        Due.is("at home", Scene.troops(1).find(0, 0), Scene.NOT_POSSIBLE);
    }

    private static void findInside() {
        ScoutGates x = Scene.troops(2);
        Scene.come(x, Scene.RED, 0);
        Due.is("inside", x.find(0, 0), Scene.NOT_POSSIBLE);
        Due.is("it stays there", Scene.how(x, 0), Scene.INSIDE);
    }

    private static void findOutside() {
        ScoutGates x = Scene.troops(2);
        Scene.come(x, Scene.BLUE, 0);
        Due.is("outside", x.find(0, 0), Scene.NOT_POSSIBLE);
        Due.is("it stays there", Scene.how(x, 0), Scene.OUTSIDE);
    }

    private static void findOnHike() {
        ScoutGates x = Scene.troops(1);
        Scene.come(x, Scene.RED, 0);
        Due.is("on a hike", x.find(0, 0), Scene.NOT_POSSIBLE);
        Due.is("it stays there", Scene.how(x, 0), Scene.ON_HIKE);
    }

    private static void findTwice() {
        ScoutGates x = Scene.struck(1, 0);
        Due.is("found", x.find(0, 0), 1);
        Due.is("struck, but not lost", x.find(0, 0), Scene.NOT_POSSIBLE);
    }

    // ---- 8: pass

    private static void passOne() {
        ScoutGates x = new ScoutGates();
        Due.is("1", x.pass(1), 0);
        Due.is("minutes so far", x.count(Scene.MINUTES_SO_FAR), 1);
    }

    private static void passMost() {
        ScoutGates x = new ScoutGates();
        Due.is("99", x.pass(99), 0);
        Due.is("minutes so far", x.count(Scene.MINUTES_SO_FAR), 99);
    }

    private static void passTooFew() {
        ScoutGates x = new ScoutGates();
        Due.is("0", x.pass(0), Scene.BAD_VALUE);
        Due.is("-1", x.pass(-1), Scene.BAD_VALUE);
        Due.is("least", x.pass(Integer.MIN_VALUE), Scene.BAD_VALUE);
        Due.is("minutes so far", x.count(Scene.MINUTES_SO_FAR), 0);
    }

    private static void passTooMany() {
        ScoutGates x = new ScoutGates();
        Due.is("100", x.pass(100), Scene.BAD_VALUE);
        Due.is("most", x.pass(Integer.MAX_VALUE), Scene.BAD_VALUE);
        Due.is("minutes so far", x.count(Scene.MINUTES_SO_FAR), 0);
    }

    private static void noGateOpens() {
        ScoutGates x = Scene.troops(2);
        Scene.come(x, Scene.RED, 0);
        x.lose(0, 1);
        Due.is("before the strike", x.pass(20), 0);
    }

    private static void allGatesOpen() {
        ScoutGates x = Scene.troops(2, 2, 2, 2, 2);
        for (int troop = 0; troop < 5; troop++) {
            x.come(troop, 0, Scene.RED);
            x.lose(troop, 1);
            x.pass(1);
        }
        Due.is("five open, one each minute", x.pass(99), 5);
        Due.is("hikes", x.count(2), 5);
    }

    private static void oneGateTwice() {
        ScoutGates x = Scene.struck(3, 0);
        Scene.come(x, Scene.BLUE, 0);
        Scene.come(x, Scene.RED, 2);
        x.lose(0, 1);
        x.resize(0, 2);
        // The strike of 1 opens the gate for 2, and its next strike, a minute later, for 0.
        Due.is("two minutes", x.pass(2), 2);
        Due.is("minutes of the first hike", x.of(0, 2, Scene.MINUTES), 29);
        Due.is("minutes of the second hike", x.of(0, 0, Scene.MINUTES), 30);
    }

    private static ScoutGates at9999() {
        ScoutGates x = new ScoutGates();
        Scene.pass(x, 9999);
        return x;
    }

    private static void upTo9999() {
        ScoutGates x = new ScoutGates();
        Scene.pass(x, 9998);
        Due.is("the last minute", x.pass(1), 0);
        Due.is("minutes so far", x.count(Scene.MINUTES_SO_FAR), 9999);
        ScoutGates y = new ScoutGates();
        Scene.pass(y, 9900);
        Due.is("the last 99 minutes", y.pass(99), 0);
        Due.is("minutes so far again", y.count(Scene.MINUTES_SO_FAR), 9999);
    }

    private static void moreThan9999() {
        ScoutGates x = at9999();
        Due.is("one more", x.pass(1), Scene.NOT_POSSIBLE);
        ScoutGates y = new ScoutGates();
        Scene.pass(y, 9901);
        Due.is("99 minutes, one too many", y.pass(99), Scene.NOT_POSSIBLE);
        Due.is("98 minutes", y.pass(98), 0);
    }

    private static void noMinuteOfThem() {
        ScoutGates x = Scene.troops(2);
        Scene.pass(x, 9970);
        Scene.come(x, Scene.RED, 0);
        x.lose(0, 1);
        Due.is("30 minutes, one too many", x.pass(30), Scene.NOT_POSSIBLE);
        Due.is("minutes so far", x.count(Scene.MINUTES_SO_FAR), 9970);
        Due.is("lost for", x.of(0, 1, Scene.MINUTES), 0);
        Due.is("hikes", x.count(2), 0);
    }

    private static void badMinutesAtTheEnd() {
        ScoutGates x = at9999();
        Due.is("0", x.pass(0), Scene.BAD_VALUE);
        Due.is("100", x.pass(100), Scene.BAD_VALUE);
    }
}
