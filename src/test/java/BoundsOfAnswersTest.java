/** The boundary cases of the promises 8 to 26. */
public final class BoundsOfAnswersTest extends Bounds {
    private BoundsOfAnswersTest() {
    }

    public static void main(String[] args) {
        new BoundsOfAnswersTest().runAll(8, 26);
    }

    // ---- the tower

    void promise08_from0OnByWhatPassed() {
        GoatTower x = new GoatTower();
        due("at first", 0, x.minute());
        x.pass(60);
        due("after 60", 60, x.minute());
        x.pass(1);
        due("after 61", 61, x.minute());
        Checks.outcome(() -> x.pass(61));
        due("none by a refused call", 61, x.minute());
    }

    void promise09_from0To4() {
        GoatTower x = new GoatTower();
        for (int i = 0; i < 4; i++) {
            due("gates", i, x.gates());
            x.addGate(1, 0);
        }
        due("all", 4, x.gates());
        Checks.outcome(() -> x.addGate(1, 0));
        due("none by a refused call", 4, x.gates());
    }

    void promise10_from0To12() {
        GoatTower x = new GoatTower();
        for (int i = 0; i < 12; i++) {
            due("goats", i, x.goats());
            x.addGoat(1);
        }
        due("all", 12, x.goats());
        Checks.outcome(() -> x.addGoat(1));
        due("none by a refused call", 12, x.goats());
    }

    void promise11_from0To12() {
        GoatTower x = full();
        for (int i = 0; i < 12; i++) {
            due("waiting", i, x.waiting());
            x.ask(i, i % 4, 1, 30, 2);
        }
        due("all", 12, x.waiting());
        x.pass(1);
        due("one is in at gate 0, two at gate 1, three at each other", 3, x.waiting());
        x.pass(1);
        due("the others gave up", 0, x.waiting());
    }

    void promise12_from0To12() {
        GoatTower x = full();
        for (int i = 0; i < 12; i++) {
            due("inside", i, x.inside());
            x.barge(i, i < 9 ? 3 : 2, 1, 2);
        }
        due("all", 12, x.inside());
        x.pass(1);
        due("a minute is left", 12, x.inside());
        x.pass(1);
        due("none is left", 0, x.inside());
    }

    void promise13_with8MinutesNotWith7() {
        GoatTower x = blocked(2, 60);
        due("none asked long ago", 0, x.starving());
        x.pass(7);
        due("after 7", 0, x.starving());
        x.pass(1);
        due("after 8", 1, x.starving());
        x.pass(1);
        due("after 9", 1, x.starving());
    }

    void promise13_oneWhoWaits8AtTheMostGivesUpInsteadOneWhoWaits9Starves() {
        GoatTower x = blocked(2, 8);
        x.pass(7);
        due("of 8, after 7", 0, x.starving());
        x.pass(1);
        due("of 8, after 8", 0, x.starving());
        due("it gave up", 1, x.givenUp());
        GoatTower y = blocked(2, 9);
        y.pass(8);
        due("of 9, after 8", 1, y.starving());
        y.pass(1);
        due("of 9, after 9", 0, y.starving());
    }

    void promise13_oneInsideOrIdleDoesNotStarve() {
        GoatTower x = blocked(2, 60);
        x.pass(8);
        x.callBack(0);
        x.pass(1);
        due("it is inside", 2, x.stateOf(1));
        due("inside", 0, x.starving());
        GoatTower y = blocked(2, 60);
        y.pass(8);
        y.callBack(1);
        due("idle", 0, y.starving());
    }

    void promise13_onlyTheWaitForThisCounts() {
        GoatTower x = blocked(2, 60);
        x.pass(8);
        x.callBack(1);
        x.ask(1, 0, 1, 1, 60);
        due("asked anew", 0, x.starving());
        x.pass(7);
        due("7 for this", 0, x.starving());
        x.pass(1);
        due("8 for this", 1, x.starving());
    }

    void promise13_elevenOfAFullTower() {
        GoatTower x = blocked(12, 60);
        x.pass(7);
        due("after 7", 0, x.starving());
        x.pass(1);
        due("after 8", 11, x.starving());
    }

    void promise13_theFirstAndTheLastGoatOfAFullTower() {
        GoatTower x = full();
        x.barge(5, 0, 1, 30);
        x.ask(0, 0, 1, 1, 60);
        x.pass(1);
        x.ask(11, 0, 1, 1, 60);
        x.pass(7);
        due("goat 0", 1, x.starving());
        x.pass(1);
        due("goat 11 too", 2, x.starving());
    }

    void promise14_whoBargesIsNotCounted() {
        GoatTower x = full();
        for (int i = 0; i < 4; i++) {
            x.barge(i, i, 1, 1);
        }
        due("none", 0, x.letIn());
        x.ask(4, 3, 1, 1, 1);
        due("none by asking", 0, x.letIn());
        x.pass(1);
        due("one", 1, x.letIn());
    }

    void promise14_theSameOneIsCountedEachTime() {
        GoatTower x = tower(1, 0, 1);
        for (int i = 1; i <= 30; i++) {
            x.ask(0, 0, 1, 1, 1);
            x.pass(1);
            due("times", i, x.letIn());
            x.callBack(0);
            due("called back, it was let in all the same", i, x.letIn());
        }
    }

    void promise15_from0OnAndTheSameOneEachTime() {
        GoatTower x = blocked(2, 1);
        due("none", 0, x.givenUp());
        for (int i = 1; i <= 20; i++) {
            x.pass(1);
            due("times", i, x.givenUp());
            x.ask(1, 0, 1, 1, 1);
        }
    }

    void promise15_withAsManyAsItWaitsNotWithOneLess() {
        for (int waits : new int[] {1, 2, 29}) {
            GoatTower x = blocked(2, waits);
            if (waits > 1) {
                x.pass(waits - 1);
            }
            due("one less than " + waits, 0, x.givenUp());
            x.pass(1);
            due("as many as " + waits, 1, x.givenUp());
        }
    }

    void promise15_theSixtiethMinute() {
        GoatTower x = blocked(2, 60);
        x.pass(29);
        x.callBack(0);
        x.barge(0, 0, 1, 30);
        x.pass(29);
        x.callBack(0);
        x.barge(0, 0, 1, 30);
        x.pass(1);
        due("after 59", 0, x.givenUp());
        due("a minute is left", 1, x.minutesLeft(1));
        x.pass(1);
        due("after 60", 1, x.givenUp());
    }

    void promise15_neitherCalledBackNorLetInNorLeft() {
        GoatTower x = blocked(3, 60);
        x.callBack(1);
        x.callBack(0);
        x.pass(60);
        due("none", 0, x.givenUp());
    }

    void promise15_elevenAtOnce() {
        GoatTower x = blocked(12, 5);
        x.pass(4);
        due("none yet", 0, x.givenUp());
        x.pass(1);
        due("eleven", 11, x.givenUp());
    }

    void promise15_atEachGate() {
        GoatTower x = full();
        for (int i = 0; i < 4; i++) {
            x.barge(i, i, x.permitsOf(i), 30);
            x.ask(4 + i, i, 1, 1, 1 + i);
        }
        for (int minute = 1; minute <= 4; minute++) {
            x.pass(1);
            due("after minute " + minute, minute, x.givenUp());
        }
    }

    // ---- gates

    void promise16_onlyGatesThatThereAre() {
        onlyGates(GoatTower::permitsOf);
    }

    void promise16_from1To9() {
        for (int permits = 1; permits <= 9; permits++) {
            due("permits", permits, tower(permits, 0).permitsOf(0));
        }
    }

    void promise16_heldOnesCountToo() {
        GoatTower x = tower(4, 0, 1);
        x.barge(0, 0, 4, 1);
        due("permits", 4, x.permitsOf(0));
    }

    void promise17_onlyGatesThatThereAre() {
        onlyGates(GoatTower::freeOf);
    }

    void promise17_fromAllToNone() {
        GoatTower x = full();
        for (int i = 0; i < 9; i++) {
            due("free", 9 - i, x.freeOf(3));
            x.barge(i, 3, 1, 1 + i);
        }
        due("none", 0, x.freeOf(3));
        for (int i = 1; i <= 9; i++) {
            x.pass(1);
            due("given back", i, x.freeOf(3));
        }
        due("at another gate", 3, x.freeOf(2));
    }

    void promise17_whoWaitsHoldsNone() {
        GoatTower x = tower(9, 0, 1);
        x.ask(0, 0, 9, 1, 1);
        due("all", 9, x.freeOf(0));
        x.pass(1);
        due("none", 0, x.freeOf(0));
    }

    void promise17_whoGaveUpHoldsNone() {
        GoatTower x = tower(2, 0, 1, 1);
        x.barge(0, 0, 1, 30);
        x.ask(1, 0, 2, 1, 1);
        x.pass(1);
        due("one", 1, x.freeOf(0));
    }

    void promise18_onlyGatesThatThereAre() {
        onlyGates(GoatTower::waitingAt);
    }

    void promise18_from0To12() {
        GoatTower x = full();
        for (int i = 0; i < 12; i++) {
            due("waiting", i, x.waitingAt(2));
            x.ask(i, 2, 1, 30, 1);
        }
        due("all", 12, x.waitingAt(2));
        due("none elsewhere", 0, x.waitingAt(3));
        x.pass(1);
        due("three are in, nine gave up", 0, x.waitingAt(2));
    }

    void promise19_onlyGatesThatThereAre() {
        onlyGates(GoatTower::nextAt);
    }

    void promise19_nobodyIfNobodyWaits() {
        due("without goats, first come", -1, tower(9, 0).nextAt(0));
        due("without goats, horns", -1, tower(9, 1).nextAt(0));
        GoatTower x = full();
        x.ask(0, 1, 1, 1, 1);
        for (int gate : new int[] {0, 2, 3}) {
            due("at gate " + gate, -1, x.nextAt(gate));
        }
        due("at gate 1", 0, x.nextAt(1));
    }

    void promise19_justAsManyAsAreFreeNotOneMore() {
        for (int order = 0; order <= 1; order++) {
            GoatTower x = tower(9, order, 1, 1);
            x.barge(0, 0, 4, 30);
            x.ask(1, 0, 5, 1, 9);
            due("5 of 5, order " + order, 1, x.nextAt(0));
            x.callBack(1);
            x.ask(1, 0, 6, 1, 9);
            due("6 of 5, order " + order, -1, x.nextAt(0));
        }
    }

    void promise19_nobodyIfNoneIsFree() {
        for (int order = 0; order <= 1; order++) {
            GoatTower x = tower(1, order, 1, 9);
            x.barge(0, 0, 1, 1);
            x.ask(1, 0, 1, 1, 9);
            due("now, though one is free in the next minute, order " + order, -1, x.nextAt(0));
            due("let in, order " + order, 1, x.pass(1));
        }
    }

    void promise19_theLastGoatOfAFullTower() {
        for (int gate = 0; gate < 4; gate++) {
            GoatTower x = full();
            x.ask(11, gate, 1, 1, 1);
            due("at gate " + gate, 11, x.nextAt(gate));
        }
    }

    void promise19_oneHornMoreIsEnoughAndAsManyAreNot() {
        GoatTower x = tower(1, 1, 5, 6, 5);
        x.ask(0, 0, 1, 1, 9);
        x.ask(2, 0, 1, 1, 9);
        due("5 and 5", 0, x.nextAt(0));
        x.ask(1, 0, 1, 1, 9);
        due("6", 1, x.nextAt(0));
    }

    // ---- goats

    void promise20_onlyGoatsThatThereAre() {
        onlyGoats(GoatTower::stateOf);
    }

    void promise20_insideToItsLastMinute() {
        GoatTower x = tower(1, 0, 1);
        x.ask(0, 0, 1, 2, 1);
        due("it waits", 1, x.stateOf(0));
        x.pass(2);
        due("a minute is left", 2, x.stateOf(0));
        x.pass(1);
        due("none is left", 0, x.stateOf(0));
    }

    void promise20_waitsToItsLastMinute() {
        GoatTower x = blocked(2, 2);
        x.pass(1);
        due("a minute is left", 1, x.stateOf(1));
        x.pass(1);
        due("it gave up", 0, x.stateOf(1));
    }

    void promise21_onlyGoatsThatThereAre() {
        onlyGoats(GoatTower::gateOf);
    }

    void promise21_gates0To3AndNoneOfOneWhoIsIdle() {
        GoatTower x = full();
        due("idle", -1, x.gateOf(0));
        for (int gate = 0; gate < 4; gate++) {
            x.ask(gate, gate, 1, 1, 9);
            due("waits at", gate, x.gateOf(gate));
        }
        x.pass(1);
        for (int gate = 0; gate < 4; gate++) {
            due("inside", gate, x.gateOf(gate));
        }
        x.pass(1);
        for (int gate = 0; gate < 4; gate++) {
            due("left", -1, x.gateOf(gate));
        }
    }

    void promise21_noneAfterGivingUpAndCallBack() {
        GoatTower x = blocked(3, 1);
        x.callBack(2);
        due("called back", -1, x.gateOf(2));
        x.pass(1);
        due("gave up", -1, x.gateOf(1));
        x.callBack(0);
        due("called back from inside", -1, x.gateOf(0));
    }

    void promise22_onlyGoatsThatThereAre() {
        onlyGoats(GoatTower::holds);
    }

    void promise22_1To9InsideAnd0Otherwise() {
        for (int many = 1; many <= 9; many++) {
            GoatTower x = tower(9, 1, 1);
            due("idle", 0, x.holds(0));
            x.ask(0, 0, many, 1, 9);
            due("waits", 0, x.holds(0));
            x.pass(1);
            due("inside", many, x.holds(0));
            x.pass(1);
            due("left", 0, x.holds(0));
            x.barge(0, 0, many, 1);
            due("barged in", many, x.holds(0));
            x.callBack(0);
            due("called back", 0, x.holds(0));
        }
    }

    void promise22_0AfterGivingUp() {
        GoatTower x = blocked(2, 1);
        x.pass(1);
        due("gave up", 0, x.holds(1));
    }

    void promise23_onlyGoatsThatThereAre() {
        onlyGoats(GoatTower::seemingHorns);
    }

    void promise23_oneFor3MinutesFrom0To59() {
        GoatTower x = tower(1, 0, 1, 9);
        x.barge(0, 0, 1, 30);
        x.ask(1, 0, 1, 1, 60);
        due("at first", 9, x.seemingHorns(1));
        for (int waited = 1; waited < 60; waited++) {
            if (waited == 30) {
                x.callBack(0);
                x.barge(0, 0, 1, 30);
            }
            if (waited == 59) {
                x.callBack(0);
                x.barge(0, 0, 1, 30);
            }
            x.pass(1);
            due("after " + waited, 9 + waited / 3, x.seemingHorns(1));
        }
        due("after 59", 28, x.seemingHorns(1));
        x.pass(1);
        due("it gave up", 0, x.stateOf(1));
        due("its own ones", 9, x.seemingHorns(1));
    }

    void promise23_itsOwnIfItDoesNotWait() {
        GoatTower x = blocked(2, 60);
        x.pass(3);
        due("it waits", 3, x.seemingHorns(1));
        x.callBack(0);
        x.pass(1);
        due("let in", 2, x.seemingHorns(1));
        GoatTower y = blocked(2, 60);
        y.pass(3);
        y.callBack(1);
        due("called back", 2, y.seemingHorns(1));
        y.ask(1, 0, 1, 1, 60);
        y.pass(2);
        due("2 for this", 2, y.seemingHorns(1));
    }

    void promise24_onlyGoatsThatThereAre() {
        onlyGoats(GoatTower::minutesLeft);
    }

    void promise24_idle0() {
        GoatTower x = blocked(3, 2);
        due("called back", 0, afterCallBack(x, 2));
        x.pass(2);
        due("gave up", 0, x.minutesLeft(1));
        x.pass(28);
        due("left", 0, x.minutesLeft(0));
        due("new", 0, tower(1, 0, 1).minutesLeft(0));
    }

    void promise24_waitsFrom60To1() {
        GoatTower x = blocked(2, 60);
        due("at first", 60, x.minutesLeft(1));
        x.pass(1);
        due("a minute later", 59, x.minutesLeft(1));
        GoatTower y = blocked(2, 30);
        y.pass(29);
        due("the last one", 1, y.minutesLeft(1));
    }

    void promise24_staysFrom30To1() {
        GoatTower x = tower(1, 0, 1);
        x.barge(0, 0, 1, 30);
        due("at first", 30, x.minutesLeft(0));
        x.pass(29);
        due("the last one", 1, x.minutesLeft(0));
        GoatTower y = tower(1, 0, 1);
        y.ask(0, 0, 1, 30, 1);
        due("it waits 1 at the most", 1, y.minutesLeft(0));
        y.pass(1);
        due("let in", 30, y.minutesLeft(0));
    }

    void promise25_onlyGoatsThatThereAre() {
        onlyGoats(GoatTower::waitedOf);
    }

    void promise25_0WithoutWaitingTheMinuteOfLettingInNeither() {
        GoatTower x = tower(1, 0, 1, 1);
        due("new", 0, x.waitedOf(0));
        x.ask(0, 0, 1, 5, 1);
        x.pass(1);
        due("let in at once", 0, x.waitedOf(0));
        x.pass(20);
        due("inside, and idle", 0, x.waitedOf(0));
    }

    void promise25_60OfOneWhoGaveUpAfter60() {
        GoatTower x = tower(1, 0, 1, 1, 1, 1);
        x.barge(0, 0, 1, 30);
        x.ask(2, 0, 1, 30, 60);
        x.ask(3, 0, 1, 30, 60);
        x.ask(1, 0, 1, 1, 60);
        x.pass(60);
        due("given up", 1, x.givenUp());
        due("the last one", 60, x.waitedOf(1));
        due("the one let in in the minute 30", 29, x.waitedOf(2));
        due("the one let in in the minute 60", 59, x.waitedOf(3));
    }

    void promise25_overSeveralWaits() {
        GoatTower x = blocked(2, 3);
        x.pass(3);
        due("gave up", 3, x.waitedOf(1));
        x.ask(1, 0, 1, 1, 9);
        due("asked anew", 3, x.waitedOf(1));
        x.pass(1);
        x.callBack(1);
        due("called back", 4, x.waitedOf(1));
    }

    void promise26_onlyGoatsThatThereAre() {
        onlyGoats(GoatTower::placeInLine);
    }

    void promise26_from0To11() {
        GoatTower x = full();
        for (int i = 11; i >= 0; i--) {
            due("idle", -1, x.placeInLine(i));
            x.ask(i, 1, 2, 1, 60);
        }
        for (int i = 0; i < 12; i++) {
            due("place of goat " + i, 11 - i, x.placeInLine(i));
        }
    }

    void promise26_from0To11ByNumbersToo() {
        GoatTower x = full();
        for (int i = 0; i < 12; i++) {
            x.ask(i, 1, 2, 1, 60);
        }
        for (int i = 0; i < 12; i++) {
            due("place of goat " + i, i, x.placeInLine(i));
        }
    }

    void promise26_insideLeftGaveUpOrCalledBackMinus1() {
        GoatTower x = blocked(4, 2);
        due("inside", -1, x.placeInLine(0));
        due("the last one", 2, x.placeInLine(3));
        x.callBack(2);
        due("called back", -1, x.placeInLine(2));
        due("one ahead less", 1, x.placeInLine(3));
        x.pass(2);
        due("gave up", -1, x.placeInLine(1));
        x.pass(28);
        due("left", -1, x.placeInLine(0));
    }

    void promise26_onlyThoseAtItsGateCount() {
        GoatTower x = full();
        x.ask(0, 0, 1, 1, 9);
        x.ask(1, 1, 1, 1, 9);
        x.ask(2, 3, 1, 1, 9);
        x.ask(3, 3, 1, 1, 9);
        due("first at gate 3", 0, x.placeInLine(2));
        due("second at gate 3", 1, x.placeInLine(3));
    }

    // ---- what these tests have in common

    private void onlyGates(OnNumber call) {
        onlyThose(0, GoatTower::new, call);
        onlyThose(0, () -> addedGoats(new GoatTower(), 12), call);
        onlyThose(1, () -> tower(1, 0, 1, 1), call);
        onlyThose(2, Bounds::busy, call);
        onlyThose(4, Bounds::crowded, call);
    }

    private void onlyGoats(OnNumber call) {
        onlyThose(0, GoatTower::new, call);
        onlyThose(0, () -> tower(9, 0), call);
        onlyThose(1, () -> tower(1, 0, 1), call);
        onlyThose(6, Bounds::busy, call);
        onlyThose(12, Bounds::crowded, call);
    }

    private static GoatTower addedGoats(GoatTower x, int count) {
        addGoats(x, count);
        return x;
    }

    /** Goat 0 holds the only permit for 30 minutes, and all others, of 2 horns, ask for it. */
    private static GoatTower blocked(int goats, int waits) {
        GoatTower x = tower(1, 0);
        for (int i = 0; i < goats; i++) {
            x.addGoat(2);
        }
        x.barge(0, 0, 1, 30);
        for (int i = 1; i < goats; i++) {
            x.ask(i, 0, 1, 1, waits);
        }
        return x;
    }

    private static int afterCallBack(GoatTower x, int goat) {
        x.callBack(goat);
        return x.minutesLeft(goat);
    }
}
