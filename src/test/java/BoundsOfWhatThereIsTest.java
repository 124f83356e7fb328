/** The boundary cases of 'What it is', of 'Terms' and of the promises 1 to 7. */
public final class BoundsOfWhatThereIsTest extends Bounds {
    private BoundsOfWhatThereIsTest() {
    }

    public static void main(String[] args) {
        new BoundsOfWhatThereIsTest().runAll(1, 7);
    }

    // ---- an object is used for at most 512 calls

    void whatItIs_the512thCallIsAnsweredAfterLongTimes() {
        GoatTower x = new GoatTower();
        for (int i = 0; i < 511; i++) {
            x.pass(60);
        }
        due("the 512th call", 511 * 60, x.minute());
    }

    void whatItIs_the512thCallIsAnsweredAfterManyAsked() {
        GoatTower x = tower(1, 0, 5);
        for (int i = 0; i < 254; i++) {
            due("how many wait", 1, x.ask(0, 0, 1, 1, 1));
            due("what it gives back", 0, x.callBack(0));
        }
        due("call 511", 1, x.ask(0, 0, 1, 1, 1));
        due("the 512th call", 1, x.pass(1));
    }

    void whatItIs_the512thCallIsAnsweredAfterManyGaveUp() {
        GoatTower x = tower(1, 0, 1, 1);
        for (int i = 0; i < 126; i++) {
            x.barge(1, 0, 1, 30);
            x.ask(0, 0, 1, 1, 1);
            x.pass(1);
            x.callBack(1);
        }
        x.gates();
        x.goats();
        x.minute();
        x.inside();
        due("call 512", 126, x.givenUp());
    }

    // ---- gates, goats, horns, starving

    void terms_gatesAreNumberedFrom0To3() {
        GoatTower x = new GoatTower();
        for (int i = 0; i < 4; i++) {
            due("number", i, x.addGate(1, 0));
        }
    }

    void terms_goatsAreNumberedFrom0To11() {
        GoatTower x = new GoatTower();
        for (int i = 0; i < 12; i++) {
            due("number", i, x.addGoat(1));
        }
    }

    void terms_goatsAreIdleAtFirst() {
        GoatTower x = full();
        for (int i = 0; i < 12; i++) {
            due("state", 0, x.stateOf(i));
        }
    }

    void terms_aHornMoreSeemsAfter3MinutesNot2() {
        GoatTower x = tower(1, 0, 1, 5);
        x.barge(0, 0, 1, 30);
        x.ask(1, 0, 1, 1, 60);
        x.pass(2);
        due("after 2", 5, x.seemingHorns(1));
        x.pass(1);
        due("after 3", 6, x.seemingHorns(1));
        x.pass(2);
        due("after 5", 6, x.seemingHorns(1));
        x.pass(1);
        due("after 6", 7, x.seemingHorns(1));
    }

    void terms_aGoatStarvesAfter8MinutesNot7() {
        GoatTower x = tower(1, 0, 1, 5);
        x.barge(0, 0, 1, 30);
        x.ask(1, 0, 1, 1, 60);
        x.pass(7);
        due("after 7", 0, x.starving());
        x.pass(1);
        due("after 8", 1, x.starving());
    }

    // ---- who is let in at a gate

    void terms_firstComeTheFirstOneWantsJustWhatIsFree() {
        GoatTower x = tower(5, 0, 1, 1);
        x.barge(0, 0, 2, 30);
        x.ask(1, 0, 3, 1, 9);
        due("next", 1, x.nextAt(0));
        due("let in", 1, x.pass(1));
    }

    void terms_firstComeTheFirstOneWantsOneMoreThanIsFree() {
        GoatTower x = tower(5, 0, 1, 1, 9);
        x.barge(0, 0, 2, 30);
        x.ask(1, 0, 4, 1, 9);
        x.ask(2, 0, 1, 1, 9);
        due("nobody is next, the second neither", -1, x.nextAt(0));
        due("nobody is let in", 0, x.pass(1));
    }

    void terms_firstComeHornsDoNotCount() {
        GoatTower x = tower(1, 0, 1, 9);
        x.ask(0, 0, 1, 1, 9);
        x.ask(1, 0, 1, 1, 9);
        due("next", 0, x.nextAt(0));
        GoatTower y = tower(1, 0, 9, 1);
        y.ask(1, 0, 1, 1, 9);
        y.ask(0, 0, 1, 1, 9);
        due("next, whatever its number", 1, y.nextAt(0));
    }

    void terms_byHornsTheLongestWantsJustWhatIsFree() {
        GoatTower x = tower(5, 1, 1, 9, 1);
        x.barge(0, 0, 2, 30);
        x.ask(2, 0, 1, 1, 9);
        x.ask(1, 0, 3, 1, 9);
        due("next", 1, x.nextAt(0));
        due("the other one has no permit left", 1, x.pass(1));
        due("inside", 2, x.stateOf(1));
    }

    void terms_byHornsTheLongestWantsOneMoreThanIsFree() {
        GoatTower x = tower(5, 1, 1, 9, 1);
        x.barge(0, 0, 2, 30);
        x.ask(1, 0, 4, 1, 9);
        x.ask(2, 0, 1, 1, 9);
        due("the other one is next", 2, x.nextAt(0));
        due("it is let in", 1, x.pass(1));
        due("inside", 2, x.stateOf(2));
        due("the longest waits", 1, x.stateOf(1));
    }

    void terms_byHornsNobodyIfAllWantMoreThanIsFree() {
        GoatTower x = tower(5, 1, 1, 9, 1);
        x.barge(0, 0, 4, 30);
        x.ask(1, 0, 2, 1, 9);
        x.ask(2, 0, 2, 1, 9);
        due("next", -1, x.nextAt(0));
        due("let in", 0, x.pass(1));
    }

    void terms_byHornsOfSeveralAlikeTheOneWhoAskedFirst() {
        GoatTower x = tower(1, 1, 7, 7, 7);
        x.ask(2, 0, 1, 1, 9);
        x.ask(0, 0, 1, 1, 9);
        x.ask(1, 0, 1, 1, 9);
        due("next", 2, x.nextAt(0));
        x.callBack(2);
        due("then", 0, x.nextAt(0));
    }

    void terms_byHornsAsTheySeemIsOneHornEnough() {
        GoatTower x = tower(1, 1, 1, 4, 6);
        x.barge(0, 0, 1, 30);
        x.ask(1, 0, 1, 1, 60);
        x.pass(5);
        x.ask(2, 0, 1, 1, 60);
        x.callBack(0);
        due("4 and 1 for 5 minutes are fewer than 6", 2, x.nextAt(0));
        GoatTower y = tower(1, 1, 1, 4, 6);
        y.barge(0, 0, 1, 30);
        y.ask(1, 0, 1, 1, 60);
        y.pass(6);
        y.ask(2, 0, 1, 1, 60);
        y.callBack(0);
        due("4 and 2 for 6 minutes are as many, and it asked first", 1, y.nextAt(0));
        GoatTower z = tower(1, 1, 1, 6, 4);
        z.barge(0, 0, 1, 30);
        z.ask(2, 0, 1, 1, 60);
        z.pass(3);
        z.ask(1, 0, 1, 1, 60);
        z.pass(6);
        z.callBack(0);
        due("4 and 3 for 9 minutes are fewer than 6 and 2 for 6", 1, z.nextAt(0));
    }

    // ---- a minute

    void terms_aMinuteStep1PermitsOfALastMinuteAreTakenInTheSameOne() {
        GoatTower x = tower(1, 0, 1, 1);
        x.barge(0, 0, 1, 2);
        x.ask(1, 0, 1, 1, 9);
        due("a minute is left", 0, x.pass(1));
        due("still inside", 2, x.stateOf(0));
        due("none is left, and its permit is taken", 1, x.pass(1));
        due("idle", 0, x.stateOf(0));
    }

    void terms_aMinuteStep1OneWhoIsLetInHasItsWholeStay() {
        GoatTower x = tower(1, 0, 1);
        x.ask(0, 0, 1, 1, 9);
        x.pass(1);
        due("inside at the end of that minute", 2, x.stateOf(0));
        due("minutes left", 1, x.minutesLeft(0));
        x.pass(1);
        due("idle in the next one", 0, x.stateOf(0));
    }

    void terms_aMinuteStep1OneWhoBargedHasAMinuteLessAtOnce() {
        GoatTower x = tower(1, 0, 1, 1);
        x.barge(0, 0, 1, 1);
        x.ask(1, 0, 1, 1, 9);
        due("its permit is taken in this minute", 1, x.pass(1));
    }

    void terms_aMinuteStep2AsLongAsSomebodyIsLetIn() {
        GoatTower x = new GoatTower();
        x.addGate(6, 0);
        addGoats(x, 4);
        x.ask(0, 0, 1, 9, 9);
        x.ask(1, 0, 2, 9, 9);
        x.ask(2, 0, 3, 9, 9);
        x.ask(3, 0, 1, 9, 9);
        due("three take all six", 3, x.pass(1));
        due("free", 0, x.freeOf(0));
        due("the fourth waits", 1, x.stateOf(3));
    }

    void terms_aMinuteStep2AtEachGateTheLastOneToo() {
        GoatTower x = full();
        for (int i = 0; i < 4; i++) {
            x.ask(i, i, 1, 9, 9);
        }
        due("one at each of four", 4, x.pass(1));
    }

    void terms_aMinuteStep2ByHornsWhatIsLeftCountsForTheNext() {
        GoatTower x = tower(4, 1, 9, 8, 1);
        x.ask(2, 0, 1, 9, 9);
        x.ask(1, 0, 2, 9, 9);
        x.ask(0, 0, 3, 9, 9);
        due("9 takes three, 8 wants two of one, and 1 takes it", 2, x.pass(1));
        due("8 waits", 1, x.stateOf(1));
        due("1 is inside", 2, x.stateOf(2));
    }

    void terms_aMinuteStep3WhoIsLetInInItsLastMinuteDoesNotGiveUp() {
        GoatTower x = tower(1, 0, 1, 1);
        x.barge(0, 0, 1, 3);
        x.ask(1, 0, 1, 1, 3);
        x.pass(2);
        due("it waits", 1, x.minutesLeft(1));
        due("let in", 1, x.pass(1));
        due("given up", 0, x.givenUp());
        due("it waited 2 minutes, not 3", 2, x.waitedOf(1));
    }

    void terms_aMinuteStep3GivesUpWithAsManyNotWithOneLess() {
        GoatTower x = tower(1, 0, 1, 1);
        x.barge(0, 0, 1, 30);
        x.ask(1, 0, 1, 1, 3);
        x.pass(2);
        due("after 2 of 3", 0, x.givenUp());
        due("it waits", 1, x.stateOf(1));
        x.pass(1);
        due("after 3 of 3", 1, x.givenUp());
        due("idle", 0, x.stateOf(1));
    }

    void terms_aMinuteStep3MakesRoomInLineForTheNextMinuteOnly() {
        GoatTower x = tower(2, 0, 1, 1, 1);
        x.barge(0, 0, 1, 30);
        x.ask(1, 0, 2, 1, 1);
        x.ask(2, 0, 1, 1, 9);
        due("the first one gives up in this minute", 0, x.pass(1));
        due("given up", 1, x.givenUp());
        due("the second one waits still", 1, x.stateOf(2));
        due("and is let in in the next one", 1, x.pass(1));
    }

    void terms_aMinuteStep4IsOneGreater() {
        GoatTower x = new GoatTower();
        x.pass(1);
        due("minute", 1, x.minute());
        x.pass(1);
        due("minute", 2, x.minute());
    }

    // ---- promise 1

    void promise01_anEmptyTowerCountsNothing() {
        GoatTower x = new GoatTower();
        due("minute", 0, x.minute());
        due("gates", 0, x.gates());
        due("goats", 0, x.goats());
        due("waiting", 0, x.waiting());
        due("inside", 0, x.inside());
        due("starving", 0, x.starving());
        due("letIn", 0, x.letIn());
        due("givenUp", 0, x.givenUp());
        due("pass", 0, x.pass(1));
        due("givingUpIn", 0, x.givingUpIn(60));
        dueD("meanWaited", 0.0, x.meanWaited());
    }

    void promise01_anEmptyTowerHasNoGate0() {
        On[] calls = {x -> x.permitsOf(0), x -> x.freeOf(0), x -> x.waitingAt(0), x -> x.nextAt(0),
            x -> x.permitsWanted(0), x -> x.bestOrder(0)};
        for (On call : calls) {
            refused("gate 0", INDEX, GoatTower::new, call);
        }
    }

    void promise01_anEmptyTowerHasNoGoat0() {
        On[] calls = {x -> x.stateOf(0), x -> x.gateOf(0), x -> x.holds(0), x -> x.seemingHorns(0),
            x -> x.minutesLeft(0), x -> x.waitedOf(0), x -> x.placeInLine(0), x -> x.minutesUntilIn(0),
            x -> x.callBack(0), x -> x.ask(0, 0, 1, 1, 1), x -> x.barge(0, 0, 1, 1)};
        for (On call : calls) {
            refused("goat 0", INDEX, GoatTower::new, call);
        }
    }

    void promise01_aSecondObjectIsNewToo() {
        crowded();
        alike("a second one", new GoatTower(), new GoatTower());
        due("its gates", 0, new GoatTower().gates());
        due("its minute", 0, new GoatTower().minute());
    }

    // ---- promise 2

    void promise02_permits1AreTaken0AreRefused() {
        refused("0", ARGUMENT, GoatTower::new, x -> x.addGate(0, 0));
        GoatTower x = new GoatTower();
        due("number", 0, x.addGate(1, 0));
        due("permits", 1, x.permitsOf(0));
    }

    void promise02_permits9AreTaken10AreRefused() {
        refused("10", ARGUMENT, GoatTower::new, x -> x.addGate(10, 0));
        GoatTower x = new GoatTower();
        due("number", 0, x.addGate(9, 1));
        due("permits", 9, x.permitsOf(0));
    }

    void promise02_permitsFarOffAreRefused() {
        for (int permits : new int[] {-1, LEAST, GREATEST, 257, 265}) {
            refused("permits " + permits, ARGUMENT, Bounds::busy, x -> x.addGate(permits, 0));
        }
    }

    void promise02_orders0And1AreTakenMinus1And2AreRefused() {
        refused("-1", ARGUMENT, GoatTower::new, x -> x.addGate(1, -1));
        refused("2", ARGUMENT, GoatTower::new, x -> x.addGate(1, 2));
        refused("the least", ARGUMENT, Bounds::busy, x -> x.addGate(1, LEAST));
        refused("the greatest", ARGUMENT, Bounds::busy, x -> x.addGate(1, GREATEST));
        GoatTower x = new GoatTower();
        due("order 0", 0, x.addGate(1, 0));
        due("order 1", 1, x.addGate(1, 1));
        addGoats(x, 4);
        x.ask(0, 0, 1, 1, 1);
        x.ask(1, 0, 1, 1, 1);
        x.ask(2, 1, 1, 1, 1);
        x.ask(3, 1, 1, 1, 1);
        due("first come", 0, x.nextAt(0));
        due("horns", 3, x.nextAt(1));
    }

    void promise02_theFourthIsTakenTheFifthIsRefused() {
        GoatTower x = busy();
        due("the third, among goats that wait", 2, x.addGate(4, 1));
        due("the fourth", 3, x.addGate(5, 0));
        due("gates", 4, x.gates());
        due("all are free", 5, x.freeOf(3));
        refused("the fifth", STATE, Bounds::full, y -> y.addGate(1, 0));
        refused("the fifth, all busy", STATE, Bounds::crowded, y -> y.addGate(9, 1));
    }

    void promise02_ofSeveralTheArgumentIsNamedFirst() {
        refused("permits 0 of a fifth", ARGUMENT, Bounds::full, x -> x.addGate(0, 0));
        refused("permits 10 of a fifth", ARGUMENT, Bounds::full, x -> x.addGate(10, 1));
        refused("order -1 of a fifth", ARGUMENT, Bounds::full, x -> x.addGate(1, -1));
        refused("order 2 of a fifth", ARGUMENT, Bounds::full, x -> x.addGate(9, 2));
    }

    void promise02_aRefusedOneTakesNoNumber() {
        GoatTower x = new GoatTower();
        Checks.outcome(() -> x.addGate(0, 0));
        Checks.outcome(() -> x.addGate(1, 2));
        due("number", 0, x.addGate(1, 0));
        due("gates", 1, x.gates());
    }

    // ---- promise 3

    void promise03_horns1AreTaken0AreRefused() {
        refused("0", ARGUMENT, GoatTower::new, x -> x.addGoat(0));
        GoatTower x = new GoatTower();
        due("number", 0, x.addGoat(1));
        due("horns", 1, x.seemingHorns(0));
    }

    void promise03_horns9AreTaken10AreRefused() {
        refused("10", ARGUMENT, GoatTower::new, x -> x.addGoat(10));
        GoatTower x = new GoatTower();
        due("number", 0, x.addGoat(9));
        due("horns", 9, x.seemingHorns(0));
    }

    void promise03_hornsFarOffAreRefused() {
        for (int horns : new int[] {-1, LEAST, GREATEST, 257}) {
            refused("horns " + horns, ARGUMENT, Bounds::busy, x -> x.addGoat(horns));
        }
    }

    void promise03_theTwelfthIsTakenTheThirteenthIsRefused() {
        GoatTower x = new GoatTower();
        addGoats(x, 11);
        due("the twelfth", 11, x.addGoat(4));
        due("goats", 12, x.goats());
        due("its horns", 4, x.seemingHorns(11));
        due("it is idle", 0, x.stateOf(11));
        refused("the thirteenth", STATE, Bounds::full, y -> y.addGoat(1));
        refused("the thirteenth, all busy", STATE, Bounds::crowded, y -> y.addGoat(9));
    }

    void promise03_ofSeveralTheArgumentIsNamedFirst() {
        refused("horns 0 of a thirteenth", ARGUMENT, Bounds::full, x -> x.addGoat(0));
        refused("horns 10 of a thirteenth", ARGUMENT, Bounds::full, x -> x.addGoat(10));
    }

    void promise03_aRefusedOneTakesNoNumber() {
        GoatTower x = new GoatTower();
        Checks.outcome(() -> x.addGoat(0));
        Checks.outcome(() -> x.addGoat(10));
        due("number", 0, x.addGoat(1));
        due("goats", 1, x.goats());
    }

    // ---- promise 4

    void promise04_onlyGoatsThatThereAre() {
        onlyThose(6, Bounds::busy, (x, goat) -> x.ask(goat, 0, 1, 1, 1));
        onlyThose(12, Bounds::full, (x, goat) -> x.ask(goat, 0, 1, 1, 1));
        onlyThose(0, () -> tower(1, 0), (x, goat) -> x.ask(goat, 0, 1, 1, 1));
    }

    void promise04_onlyGatesThatThereAre() {
        onlyThose(2, Bounds::busy, (x, gate) -> x.ask(5, gate, 1, 1, 1));
        onlyThose(4, Bounds::full, (x, gate) -> x.ask(0, gate, 1, 1, 1));
        onlyThose(0, BoundsOfWhatThereIsTest::goatsAlone, (x, gate) -> x.ask(0, gate, 1, 1, 1));
    }

    void promise04_theLastGoatAtTheLastGateIsTaken() {
        GoatTower x = full();
        due("how many wait", 1, x.ask(11, 3, 9, 30, 60));
        due("state", 1, x.stateOf(11));
        due("gate", 3, x.gateOf(11));
    }

    void promise04_manyFrom1ToAsManyAsTheGateHas() {
        for (int permits = 1; permits <= 9; permits++) {
            int has = permits;
            refused("0 of " + has, ARGUMENT, () -> tower(has, 0, 1), x -> x.ask(0, 0, 0, 1, 1));
            due("1 of " + has, 1, tower(has, 0, 1).ask(0, 0, 1, 1, 1));
            due("all of " + has, 1, tower(has, 0, 1).ask(0, 0, has, 1, 1));
            refused("one more than " + has, ARGUMENT, () -> tower(has, 0, 1), x -> x.ask(0, 0, has + 1, 1, 1));
        }
        for (int many : new int[] {-1, LEAST, GREATEST}) {
            refused("many " + many, ARGUMENT, Bounds::busy, x -> x.ask(5, 0, many, 1, 1));
        }
    }

    void promise04_manyGoesByThePermitsOfThatGate() {
        due("9 at the gate of 9", 3, busy().ask(5, 1, 9, 1, 1));
        refused("4 at the gate of 3", ARGUMENT, Bounds::busy, x -> x.ask(5, 0, 4, 1, 1));
    }

    void promise04_manyMayBeMoreThanAreFree() {
        GoatTower x = tower(3, 0, 1, 1);
        x.barge(0, 0, 3, 30);
        due("all three, with none free", 1, x.ask(1, 0, 3, 1, 1));
    }

    void promise04_stay1And30AreTaken0And31AreRefused() {
        refused("0", ARGUMENT, Bounds::busy, x -> x.ask(5, 0, 1, 0, 1));
        refused("31", ARGUMENT, Bounds::busy, x -> x.ask(5, 0, 1, 31, 1));
        for (int stay : new int[] {-1, LEAST, GREATEST}) {
            refused("stay " + stay, ARGUMENT, Bounds::busy, x -> x.ask(5, 0, 1, stay, 1));
        }
        for (int stay : new int[] {1, 30}) {
            GoatTower x = tower(1, 0, 1);
            due("stay " + stay, 1, x.ask(0, 0, 1, stay, 1));
            x.pass(stay);
            due("its last minute", 1, x.minutesLeft(0));
            x.pass(1);
            due("it is over", 0, x.stateOf(0));
        }
    }

    void promise04_waits1And60AreTaken0And61AreRefused() {
        refused("0", ARGUMENT, Bounds::busy, x -> x.ask(5, 0, 1, 1, 0));
        refused("61", ARGUMENT, Bounds::busy, x -> x.ask(5, 0, 1, 1, 61));
        for (int waits : new int[] {-1, LEAST, GREATEST}) {
            refused("waits " + waits, ARGUMENT, Bounds::busy, x -> x.ask(5, 0, 1, 1, waits));
        }
        for (int waits : new int[] {1, 60}) {
            GoatTower x = tower(1, 0, 1);
            due("waits " + waits, 1, x.ask(0, 0, 1, 1, waits));
            due("for so long", waits, x.minutesLeft(0));
        }
    }

    void promise04_oneWhoWaitsIsRefused() {
        refused("at the same gate", STATE, Bounds::busy, x -> x.ask(1, 0, 1, 1, 1));
        refused("at another gate", STATE, Bounds::busy, x -> x.ask(1, 1, 1, 1, 1));
        refused("goat 4", STATE, Bounds::busy, x -> x.ask(4, 0, 3, 30, 60));
    }

    void promise04_oneWhoIsInsideIsRefused() {
        refused("barged in, the same gate", STATE, Bounds::busy, x -> x.ask(0, 0, 1, 1, 1));
        refused("barged in, another gate", STATE, Bounds::busy, x -> x.ask(0, 1, 1, 1, 1));
        refused("let in", STATE, Bounds::busy, x -> x.ask(2, 0, 1, 1, 1));
    }

    void promise04_idleAgainAfterTheStayNotInItsLastMinute() {
        Recipe lastMinute = () -> {
            GoatTower x = tower(1, 0, 1);
            x.barge(0, 0, 1, 5);
            x.pass(4);
            return x;
        };
        refused("in the last minute", STATE, lastMinute, x -> x.ask(0, 0, 1, 1, 1));
        GoatTower x = lastMinute.make();
        x.pass(1);
        due("after it", 1, x.ask(0, 0, 1, 1, 1));
    }

    void promise04_idleAgainAfterGivingUpNotInTheLastMinuteOfWaiting() {
        Recipe lastMinute = () -> {
            GoatTower x = tower(1, 0, 1, 1);
            x.barge(0, 0, 1, 30);
            x.ask(1, 0, 1, 1, 5);
            x.pass(4);
            return x;
        };
        refused("in the last minute", STATE, lastMinute, x -> x.ask(1, 0, 1, 1, 1));
        GoatTower x = lastMinute.make();
        x.pass(1);
        due("after it", 1, x.ask(1, 0, 1, 1, 1));
    }

    void promise04_idleAgainAfterCallBack() {
        GoatTower x = busy();
        x.callBack(1);
        x.callBack(0);
        due("one who waited", 1, x.ask(1, 0, 1, 1, 1));
        due("one who was inside", 2, x.ask(0, 0, 1, 1, 1));
    }

    void promise04_answersHowManyWaitThere1To12() {
        GoatTower x = full();
        for (int i = 0; i < 12; i++) {
            due("of that gate", i + 1, x.ask(i, 2, 3, 1, 1));
        }
        due("none waits elsewhere", 0, x.waitingAt(0));
    }

    void promise04_itWaitsThoughAllAreFree() {
        GoatTower x = tower(9, 0, 1);
        x.ask(0, 0, 9, 1, 1);
        due("it waits", 1, x.stateOf(0));
        due("all are free", 9, x.freeOf(0));
        due("nobody was let in", 0, x.letIn());
    }

    void promise04_ofSeveralTheIndexIsNamedFirst() {
        refused("goat, and many 0", INDEX, Bounds::busy, x -> x.ask(6, 0, 0, 1, 1));
        refused("goat, and all else", INDEX, Bounds::busy, x -> x.ask(-1, -1, 0, 0, 0));
        refused("gate, and stay 31", INDEX, Bounds::busy, x -> x.ask(5, 2, 1, 31, 1));
        refused("gate, and waits 61", INDEX, Bounds::busy, x -> x.ask(5, 2, 1, 1, 61));
        refused("gate, and many 0", INDEX, Bounds::busy, x -> x.ask(5, -1, 0, 1, 1));
        refused("gate, and one who waits", INDEX, Bounds::busy, x -> x.ask(1, 2, 1, 1, 1));
        refused("gate, and one inside", INDEX, Bounds::busy, x -> x.ask(0, 2, 1, 1, 1));
    }

    void promise04_ofSeveralTheArgumentIsNamedAheadOfTheState() {
        for (int goat : new int[] {0, 1}) {
            refused("many 0 of goat " + goat, ARGUMENT, Bounds::busy, x -> x.ask(goat, 0, 0, 1, 1));
            refused("many 4 of 3 of goat " + goat, ARGUMENT, Bounds::busy, x -> x.ask(goat, 0, 4, 1, 1));
            refused("stay 0 of goat " + goat, ARGUMENT, Bounds::busy, x -> x.ask(goat, 0, 1, 0, 1));
            refused("stay 31 of goat " + goat, ARGUMENT, Bounds::busy, x -> x.ask(goat, 0, 1, 31, 1));
            refused("waits 0 of goat " + goat, ARGUMENT, Bounds::busy, x -> x.ask(goat, 0, 1, 1, 0));
            refused("waits 61 of goat " + goat, ARGUMENT, Bounds::busy, x -> x.ask(goat, 0, 1, 1, 61));
        }
    }

    // ---- promise 5

    void promise05_onlyGoatsThatThereAre() {
        onlyThose(6, Bounds::busy, (x, goat) -> x.barge(goat, 0, 1, 1));
        onlyThose(12, Bounds::full, (x, goat) -> x.barge(goat, 0, 1, 1));
        onlyThose(0, () -> tower(1, 0), (x, goat) -> x.barge(goat, 0, 1, 1));
    }

    void promise05_onlyGatesThatThereAre() {
        onlyThose(2, Bounds::busy, (x, gate) -> x.barge(5, gate, 1, 1));
        onlyThose(4, Bounds::full, (x, gate) -> x.barge(0, gate, 1, 1));
        onlyThose(0, BoundsOfWhatThereIsTest::goatsAlone, (x, gate) -> x.barge(0, gate, 1, 1));
    }

    void promise05_theLastGoatAtTheLastGateIsTaken() {
        GoatTower x = full();
        due("free then", 0, x.barge(11, 3, 9, 30));
        due("state", 2, x.stateOf(11));
        due("gate", 3, x.gateOf(11));
    }

    void promise05_manyFrom1ToAsManyAsTheGateHas() {
        for (int permits = 1; permits <= 9; permits++) {
            int has = permits;
            refused("0 of " + has, ARGUMENT, () -> tower(has, 0, 1), x -> x.barge(0, 0, 0, 1));
            due("1 of " + has, has - 1, tower(has, 0, 1).barge(0, 0, 1, 1));
            due("all of " + has, 0, tower(has, 0, 1).barge(0, 0, has, 1));
            refused("one more than " + has, ARGUMENT, () -> tower(has, 0, 1), x -> x.barge(0, 0, has + 1, 1));
        }
        for (int many : new int[] {-1, LEAST, GREATEST}) {
            refused("many " + many, ARGUMENT, Bounds::busy, x -> x.barge(5, 0, many, 1));
        }
    }

    void promise05_stay1And30AreTaken0And31AreRefused() {
        refused("0", ARGUMENT, Bounds::busy, x -> x.barge(5, 0, 1, 0));
        refused("31", ARGUMENT, Bounds::busy, x -> x.barge(5, 0, 1, 31));
        for (int stay : new int[] {-1, LEAST, GREATEST}) {
            refused("stay " + stay, ARGUMENT, Bounds::busy, x -> x.barge(5, 0, 1, stay));
        }
        GoatTower x = tower(2, 0, 1, 1);
        x.barge(0, 0, 1, 1);
        x.barge(1, 0, 1, 30);
        x.pass(1);
        due("stay 1 is over", 0, x.stateOf(0));
        x.pass(28);
        due("stay 30 after 29", 1, x.minutesLeft(1));
        x.pass(1);
        due("stay 30 is over", 0, x.stateOf(1));
    }

    void promise05_justAsManyAsAreFreeAreTakenOneMoreIsRefused() {
        due("3 of 3 free", 0, busy().barge(5, 1, 3, 1));
        refused("4 of 3 free", STATE, Bounds::busy, x -> x.barge(5, 1, 4, 1));
        due("1 of 1 free", 0, busy().barge(5, 0, 1, 1));
        refused("2 of 1 free", STATE, Bounds::busy, x -> x.barge(5, 0, 2, 1));
    }

    void promise05_withNoneFree1IsRefused() {
        Recipe none = () -> {
            GoatTower x = tower(9, 0, 1, 1);
            x.barge(0, 0, 9, 2);
            return x;
        };
        refused("1 of none", STATE, none, x -> x.barge(1, 0, 1, 1));
        GoatTower x = none.make();
        x.pass(1);
        due("none in the last minute", 0, x.freeOf(0));
        x.pass(1);
        due("all after it", 0, x.barge(1, 0, 9, 1));
    }

    void promise05_pastAllWhoWait() {
        GoatTower x = tower(2, 0, 9, 9, 1);
        x.ask(0, 0, 2, 1, 9);
        x.ask(1, 0, 1, 1, 9);
        due("free then", 1, x.barge(2, 0, 1, 2));
        due("both wait", 2, x.waitingAt(0));
        due("it is inside at once", 2, x.stateOf(2));
        due("the first one finds too few", 0, x.pass(1));
    }

    void promise05_oneWhoIsNotIdleIsRefused() {
        refused("it waits there", STATE, Bounds::busy, x -> x.barge(1, 0, 1, 1));
        refused("it waits elsewhere", STATE, Bounds::busy, x -> x.barge(1, 1, 1, 1));
        refused("it is inside there", STATE, Bounds::busy, x -> x.barge(0, 0, 1, 1));
        refused("it is inside elsewhere", STATE, Bounds::busy, x -> x.barge(0, 1, 1, 1));
        refused("it is inside, and fewer are free", STATE, Bounds::busy, x -> x.barge(0, 0, 3, 1));
    }

    void promise05_idleAgainAfterTheStayNotInItsLastMinute() {
        Recipe lastMinute = () -> {
            GoatTower x = tower(2, 0, 1);
            x.ask(0, 0, 1, 3, 9);
            x.pass(3);
            return x;
        };
        refused("in the last minute", STATE, lastMinute, x -> x.barge(0, 0, 1, 1));
        GoatTower x = lastMinute.make();
        x.pass(1);
        due("after it", 1, x.barge(0, 0, 1, 1));
    }

    void promise05_ofSeveralTheIndexIsNamedFirst() {
        refused("goat, and all else", INDEX, Bounds::busy, x -> x.barge(6, 2, 0, 0));
        refused("goat, and stay 31", INDEX, Bounds::busy, x -> x.barge(-1, 0, 1, 31));
        refused("goat, and fewer are free", INDEX, Bounds::busy, x -> x.barge(6, 0, 2, 1));
        refused("gate, and many 0", INDEX, Bounds::busy, x -> x.barge(5, 2, 0, 1));
        refused("gate, and one who waits", INDEX, Bounds::busy, x -> x.barge(1, -1, 1, 1));
    }

    void promise05_ofSeveralTheArgumentIsNamedAheadOfTheState() {
        refused("many 4 of 3, and fewer are free", ARGUMENT, Bounds::busy, x -> x.barge(5, 0, 4, 1));
        refused("stay 0, and fewer are free", ARGUMENT, Bounds::busy, x -> x.barge(5, 0, 3, 0));
        refused("stay 31, and fewer are free", ARGUMENT, Bounds::busy, x -> x.barge(5, 0, 3, 31));
        refused("many 0, and it waits", ARGUMENT, Bounds::busy, x -> x.barge(1, 0, 0, 1));
        refused("many 10 of 9, and it is inside", ARGUMENT, Bounds::busy, x -> x.barge(0, 1, 10, 1));
        refused("stay 31, and it is inside", ARGUMENT, Bounds::busy, x -> x.barge(0, 0, 1, 31));
    }

    // ---- promise 6

    void promise06_onlyGoatsThatThereAre() {
        onlyThose(6, Bounds::busy, GoatTower::callBack);
        onlyThose(12, Bounds::crowded, GoatTower::callBack);
        onlyThose(0, () -> tower(1, 0), GoatTower::callBack);
    }

    void promise06_oneWhoIsIdleIsRefused() {
        refused("a new one", STATE, Bounds::full, x -> x.callBack(11));
        refused("one of others", STATE, Bounds::busy, x -> x.callBack(5));
    }

    void promise06_idleAfterTheStayNotInItsLastMinute() {
        Recipe lastMinute = () -> {
            GoatTower x = tower(4, 0, 1);
            x.barge(0, 0, 4, 3);
            x.pass(2);
            return x;
        };
        due("in the last minute", 4, lastMinute.make().callBack(0));
        refused("after it", STATE, () -> passed(lastMinute, 1), x -> x.callBack(0));
    }

    void promise06_idleAfterGivingUpNotInTheLastMinuteOfWaiting() {
        Recipe lastMinute = () -> {
            GoatTower x = tower(1, 0, 1, 1);
            x.barge(0, 0, 1, 30);
            x.ask(1, 0, 1, 1, 3);
            x.pass(2);
            return x;
        };
        due("in the last minute", 0, lastMinute.make().callBack(1));
        refused("after it", STATE, () -> passed(lastMinute, 1), x -> x.callBack(1));
    }

    void promise06_aSecondTimeIsRefused() {
        Recipe calledBack = () -> {
            GoatTower x = busy();
            x.callBack(0);
            x.callBack(1);
            return x;
        };
        refused("one who was inside", STATE, calledBack, x -> x.callBack(0));
        refused("one who waited", STATE, calledBack, x -> x.callBack(1));
    }

    void promise06_givesBack1To9() {
        for (int many = 1; many <= 9; many++) {
            GoatTower x = tower(9, 0, 1);
            x.barge(0, 0, many, 30);
            due("barged in with " + many, many, x.callBack(0));
            due("all are free", 9, x.freeOf(0));
            x.ask(0, 0, many, 30, 60);
            x.pass(1);
            due("let in with " + many, many, x.callBack(0));
            due("all are free again", 9, x.freeOf(0));
        }
    }

    void promise06_oneWhoWaitedGivesBack0() {
        GoatTower x = tower(9, 0, 1, 1);
        x.ask(0, 0, 9, 30, 60);
        due("at once", 0, x.callBack(0));
        x.barge(1, 0, 9, 30);
        x.ask(0, 0, 9, 30, 60);
        x.pass(20);
        due("after 20 minutes", 0, x.callBack(0));
        due("the other one holds all", 0, x.freeOf(0));
    }

    void promise06_theFirstInLineLeavesItToTheNext() {
        GoatTower x = tower(3, 0, 1, 1, 1);
        x.barge(0, 0, 1, 30);
        x.ask(1, 0, 3, 1, 9);
        x.ask(2, 0, 2, 1, 9);
        due("nobody", -1, x.nextAt(0));
        x.callBack(1);
        due("the next", 2, x.nextAt(0));
        due("its place", 0, x.placeInLine(2));
        due("let in", 1, x.pass(1));
    }

    void promise06_isNoGivingUpAndTakesNoLettingInBack() {
        GoatTower x = busy();
        int letIn = x.letIn();
        int givenUp = x.givenUp();
        x.callBack(1);
        x.callBack(2);
        due("let in", letIn, x.letIn());
        due("given up", givenUp, x.givenUp());
        due("waited in all", 9, x.waitedOf(1));
    }

    // ---- promise 7

    void promise07_minutes1And60AreTaken0And61AreRefused() {
        refused("0", ARGUMENT, Bounds::busy, x -> x.pass(0));
        refused("61", ARGUMENT, Bounds::busy, x -> x.pass(61));
        for (int minutes : new int[] {-1, LEAST, GREATEST}) {
            refused("minutes " + minutes, ARGUMENT, Bounds::busy, x -> x.pass(minutes));
            refused("minutes " + minutes + " of an empty tower", ARGUMENT, GoatTower::new, x -> x.pass(minutes));
        }
        GoatTower x = busy();
        x.pass(1);
        due("1", 10, x.minute());
        x.pass(60);
        due("60", 70, x.minute());
    }

    void promise07_letsNobodyInWithoutGatesOrGoats() {
        due("empty", 0, new GoatTower().pass(60));
        due("goats alone", 0, goatsAlone().pass(60));
        due("gates alone", 0, tower(9, 1).pass(60));
        due("all idle", 0, full().pass(60));
    }

    void promise07_allTwelveAtOnceOrInTurn() {
        GoatTower x = full();
        for (int i = 0; i < 9; i++) {
            x.ask(i, 3, 1, 1, 1);
        }
        for (int i = 9; i < 12; i++) {
            x.ask(i, 2, 1, 1, 1);
        }
        due("in one minute", 12, x.pass(1));
        due("inside", 12, x.inside());
        GoatTower y = full();
        for (int i = 0; i < 12; i++) {
            y.ask(i, 0, 1, 1, 60);
        }
        due("in eleven minutes", 11, y.pass(11));
        due("in the twelfth", 1, y.pass(1));
        due("later nobody", 0, y.pass(60));
    }

    void promise07_whoBargesIsNotCounted() {
        GoatTower x = tower(2, 0, 1, 1);
        x.barge(0, 0, 1, 30);
        due("one inside", 0, x.pass(1));
        x.ask(1, 0, 1, 1, 1);
        due("one let in", 1, x.pass(1));
    }

    void promise07_sixtyAtOnceAreSixtyTimesOne() {
        GoatTower x = crowded();
        GoatTower y = crowded();
        int one = 0;
        for (int i = 0; i < 60; i++) {
            one += y.pass(1);
        }
        due("let in", one, x.pass(60));
        alike("all answers", x, y);
    }

    private static GoatTower goatsAlone() {
        GoatTower x = new GoatTower();
        addGoats(x, 12);
        return x;
    }

    private static GoatTower passed(Recipe history, int minutes) {
        GoatTower x = history.make();
        x.pass(minutes);
        return x;
    }
}
