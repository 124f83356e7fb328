/** For each promise its ordinary calls, its edges and its wrong inputs; no object here gets more than 512 calls. */
public final class PromisesTest {
    private static final int[] NO_INDEX = {-1, 2, 3, 4, 12, Integer.MIN_VALUE, Integer.MAX_VALUE};

    private final Checks checks = new Checks();

    private PromisesTest() {
    }

    public static void main(String[] args) {
        PromisesTest t = new PromisesTest();
        t.promise1New();
        t.promise2AddGate();
        t.promise3AddGoat();
        t.promise4Ask();
        t.promise4AskWrong();
        t.promise5Barge();
        t.promise5BargeWrong();
        t.promise6CallBack();
        t.promise7Pass();
        t.promise7PassStay();
        t.promise7PassGatesApart();
        t.promise7PassFirstCome();
        t.promise7PassByHorns();
        t.promise7PassAllAtOnce();
        t.promise8Minute();
        t.promises9And10Counts();
        t.promises11And12WaitingInside();
        t.promise13Starving();
        t.promise14LetIn();
        t.promise15GivenUp();
        t.promises16To18Gates();
        t.promise19NextAtFirstCome();
        t.promise19NextAtByHorns();
        t.promises20To22Goats();
        t.promise23SeemingHorns();
        t.promise24MinutesLeft();
        t.promise25WaitedOf();
        t.promise26PlaceInLine();
        t.promise27MinutesUntilIn();
        t.promise27MinutesUntilInEdges();
        t.promise27MinutesUntilInOrder();
        t.promise28GivingUpIn();
        t.promise28GivingUpInAfterOthers();
        t.promise29PermitsWanted();
        t.promise29PermitsWantedEdges();
        t.promise29PermitsWantedInTheSixtiethMinute();
        t.promise30BestOrder();
        t.promise30BestOrderEdges();
        t.promise31MeanWaited();
        t.promise32Digest();
        t.promise32DigestOfAFullTower();
        t.wrongNumbersOfGates();
        t.wrongNumbersOfGoats();
        t.checks.end("PromisesTest");
    }

    private static GoatTower tower(int permits, int order, int... horns) {
        GoatTower x = new GoatTower();
        x.addGate(permits, order);
        for (int h : horns) {
            x.addGoat(h);
        }
        return x;
    }

    private void promise1New() {
        GoatTower x = new GoatTower();
        checks.same("1: minute", x.minute(), 0);
        checks.same("1: gates", x.gates(), 0);
        checks.same("1: goats", x.goats(), 0);
        checks.same("1: waiting", x.waiting(), 0);
        checks.same("1: inside", x.inside(), 0);
        checks.same("1: starving", x.starving(), 0);
        checks.same("1: letIn", x.letIn(), 0);
        checks.same("1: givenUp", x.givenUp(), 0);
        GoatTower other = new GoatTower();
        other.addGate(3, 0);
        other.addGoat(3);
        other.pass(5);
        checks.same("1: objects stand apart: gates", x.gates(), 0);
        checks.same("1: objects stand apart: goats", x.goats(), 0);
        checks.same("1: objects stand apart: minute", x.minute(), 0);
    }

    private void promise2AddGate() {
        GoatTower x = new GoatTower();
        for (int permits : new int[] {0, -1, 10, Integer.MIN_VALUE, Integer.MAX_VALUE}) {
            checks.badArgument("2: permits " + permits, x, () -> x.addGate(permits, 0));
        }
        for (int order : new int[] {-1, 2, Integer.MIN_VALUE, Integer.MAX_VALUE}) {
            checks.badArgument("2: order " + order, x, () -> x.addGate(1, order));
        }
        checks.same("2: the first", x.addGate(1, 0), 0);
        checks.same("2: the second", x.addGate(9, 1), 1);
        checks.same("2: the third", x.addGate(5, 0), 2);
        checks.same("2: the fourth", x.addGate(2, 1), 3);
        checks.same("2: 1 permit", x.permitsOf(0), 1);
        checks.same("2: 9 permits", x.permitsOf(1), 9);
        checks.same("2: 5 permits", x.permitsOf(2), 5);
        checks.same("2: 2 permits", x.permitsOf(3), 2);
        checks.badState("2: a fifth", x, () -> x.addGate(1, 0));
        checks.badArgument("2: a fifth, with bad permits", x, () -> x.addGate(10, 0));
        checks.badArgument("2: a fifth, with a bad order", x, () -> x.addGate(1, 2));
    }

    private void promise3AddGoat() {
        GoatTower x = new GoatTower();
        for (int horns : new int[] {0, -1, 10, Integer.MIN_VALUE, Integer.MAX_VALUE}) {
            checks.badArgument("3: horns " + horns, x, () -> x.addGoat(horns));
        }
        for (int i = 0; i < 12; i++) {
            int horns = i % 9 + 1;
            checks.same("3: number", x.addGoat(horns), i);
            checks.same("3: horns", x.seemingHorns(i), horns);
            checks.same("3: idle at first", x.stateOf(i), 0);
        }
        checks.badState("3: a thirteenth", x, () -> x.addGoat(1));
        checks.badArgument("3: a thirteenth with bad horns", x, () -> x.addGoat(0));
    }

    private void promise4Ask() {
        GoatTower x = tower(3, 0, 1, 2, 3, 4);
        x.addGate(9, 1);
        checks.same("4: the first", x.ask(0, 0, 3, 1, 1), 1);
        checks.same("4: it waits", x.stateOf(0), 1);
        checks.same("4: it holds nothing", x.freeOf(0), 3);
        checks.same("4: the second", x.ask(1, 0, 1, 30, 60), 2);
        checks.same("4: at another gate", x.ask(2, 1, 9, 30, 60), 1);
        checks.same("4: one inside does not count", x.barge(3, 0, 1, 2), 2);
        x.callBack(1);
        checks.same("4: one called back asks again", x.ask(1, 0, 2, 4, 7), 2);
        checks.same("4: it waits for as long as it says", x.minutesLeft(1), 7);
        checks.same("4: at this gate", x.gateOf(1), 0);
        checks.same("4: all wait, till a minute goes by", x.waiting(), 3);
    }

    private void promise4AskWrong() {
        GoatTower x = tower(2, 0, 1, 2);
        x.addGate(9, 0);
        for (int no : NO_INDEX) {
            checks.outOfBounds("4: goat " + no, x, () -> x.ask(no, 0, 1, 1, 1));
            checks.outOfBounds("4: gate " + no, x, () -> x.ask(0, no, 1, 1, 1));
            checks.outOfBounds("4: all is wrong at gate " + no, x, () -> x.ask(0, no, 0, 0, 0));
        }
        checks.outOfBounds("4: goat ahead of arguments", x, () -> x.ask(2, 0, 0, 0, 0));
        for (int many : new int[] {0, -1, 3, 10, Integer.MIN_VALUE, Integer.MAX_VALUE}) {
            checks.badArgument("4: many " + many, x, () -> x.ask(0, 0, many, 1, 1));
        }
        checks.badArgument("4: many 10 of 9", x, () -> x.ask(0, 1, 10, 1, 1));
        for (int stay : new int[] {0, -1, 31, Integer.MIN_VALUE, Integer.MAX_VALUE}) {
            checks.badArgument("4: stay " + stay, x, () -> x.ask(0, 0, 1, stay, 1));
        }
        for (int waits : new int[] {0, -1, 61, Integer.MIN_VALUE, Integer.MAX_VALUE}) {
            checks.badArgument("4: waits " + waits, x, () -> x.ask(0, 0, 1, 1, waits));
        }
        x.ask(0, 0, 1, 5, 9);
        x.barge(1, 0, 1, 5);
        checks.badState("4: it waits already", x, () -> x.ask(0, 1, 1, 1, 1));
        checks.badState("4: it is inside", x, () -> x.ask(1, 1, 1, 1, 1));
        checks.badArgument("4: many ahead of not idle", x, () -> x.ask(0, 0, 3, 1, 1));
        checks.badArgument("4: stay ahead of not idle", x, () -> x.ask(1, 0, 1, 31, 1));
        checks.badArgument("4: waits ahead of not idle", x, () -> x.ask(1, 0, 1, 1, 61));
        checks.outOfBounds("4: gate ahead of not idle", x, () -> x.ask(0, 2, 1, 1, 1));
    }

    private void promise5Barge() {
        GoatTower x = tower(5, 0, 1, 2, 3, 4);
        x.addGate(9, 1);
        x.ask(0, 0, 5, 3, 9);
        checks.same("5: past one who waits", x.barge(1, 0, 2, 2), 3);
        checks.same("5: it is inside at once", x.stateOf(1), 2);
        checks.same("5: it holds", x.holds(1), 2);
        checks.same("5: it stays", x.minutesLeft(1), 2);
        checks.same("5: all that are free", x.barge(2, 0, 3, 30), 0);
        checks.same("5: all of another gate", x.barge(3, 1, 9, 1), 0);
        checks.same("5: it was not let in", x.letIn(), 0);
        checks.same("5: nobody is let in past it", x.pass(1), 0);
        checks.same("5: a minute inside", x.minutesLeft(1), 1);
        checks.same("5: with stay 1 it is idle after a minute", x.stateOf(3), 0);
        x.pass(1);
        checks.same("5: gone after two", x.stateOf(1), 0);
        checks.same("5: the free ones", x.freeOf(0), 2);
    }

    private void promise5BargeWrong() {
        GoatTower x = tower(2, 0, 1, 2);
        x.addGate(9, 0);
        for (int no : NO_INDEX) {
            checks.outOfBounds("5: goat " + no, x, () -> x.barge(no, 0, 1, 1));
            checks.outOfBounds("5: gate " + no, x, () -> x.barge(0, no, 0, 0));
        }
        for (int many : new int[] {0, -1, 3, Integer.MIN_VALUE, Integer.MAX_VALUE}) {
            checks.badArgument("5: many " + many, x, () -> x.barge(0, 0, many, 1));
        }
        checks.badArgument("5: many 10 of 9", x, () -> x.barge(0, 1, 10, 1));
        for (int stay : new int[] {0, -1, 31, Integer.MIN_VALUE, Integer.MAX_VALUE}) {
            checks.badArgument("5: stay " + stay, x, () -> x.barge(0, 0, 1, stay));
        }
        x.barge(0, 0, 1, 9);
        checks.badState("5: fewer are free", x, () -> x.barge(1, 0, 2, 1));
        checks.badState("5: it is inside", x, () -> x.barge(0, 1, 1, 1));
        checks.badArgument("5: many ahead of fewer", x, () -> x.barge(1, 0, 3, 1));
        checks.badArgument("5: stay ahead of not idle", x, () -> x.barge(0, 0, 1, 0));
        checks.outOfBounds("5: gate ahead of not idle", x, () -> x.barge(0, 2, 1, 1));
        x.ask(1, 1, 1, 1, 9);
        checks.badState("5: it waits", x, () -> x.barge(1, 0, 1, 1));
        checks.badState("5: it waits there", x, () -> x.barge(1, 1, 1, 1));
    }

    private void promise6CallBack() {
        GoatTower x = tower(4, 0, 1, 2);
        checks.badState("6: idle", x, () -> x.callBack(0));
        checks.outOfBounds("6: no such goat", x, () -> x.callBack(2));
        x.ask(0, 0, 3, 4, 9);
        x.pass(1);
        x.ask(1, 0, 4, 4, 9);
        x.pass(2);
        checks.same("6: one who waited", x.callBack(1), 0);
        checks.same("6: it is idle", x.stateOf(1), 0);
        checks.same("6: no place in line", x.placeInLine(1), -1);
        checks.same("6: no gate", x.gateOf(1), -1);
        checks.same("6: nobody gave up", x.givenUp(), 0);
        checks.same("6: one inside", x.callBack(0), 3);
        checks.same("6: it is idle too", x.stateOf(0), 0);
        checks.same("6: it holds nothing", x.holds(0), 0);
        checks.same("6: its permits are free", x.freeOf(0), 4);
        checks.same("6: it was let in all the same", x.letIn(), 1);
        checks.badState("6: a second time", x, () -> x.callBack(0));
        x.pass(60);
        checks.same("6: nothing is left of the wait", x.givenUp(), 0);
    }

    private void promise7Pass() {
        GoatTower x = tower(1, 0, 1, 1, 1);
        for (int minutes : new int[] {0, -1, 61, Integer.MIN_VALUE, Integer.MAX_VALUE}) {
            checks.badArgument("7: minutes " + minutes, x, () -> x.pass(minutes));
        }
        x.ask(0, 0, 1, 1, 60);
        x.ask(1, 0, 1, 1, 60);
        x.ask(2, 0, 1, 1, 60);
        checks.same("7: one minute", x.pass(1), 1);
        checks.same("7: whose permit is free at the end of the stay is followed at once", x.pass(1), 1);
        checks.same("7: sixty", x.pass(60), 1);
        checks.same("7: nobody any more", x.pass(60), 0);
        checks.same("7: minutes", x.minute(), 122);
        GoatTower empty = new GoatTower();
        checks.same("7: an empty tower", empty.pass(60), 0);
        checks.same("7: its minute", empty.minute(), 60);
    }

    private void promise7PassStay() {
        GoatTower x = tower(2, 0, 1, 1);
        x.ask(0, 0, 2, 3, 5);
        x.ask(1, 0, 1, 30, 3);
        x.pass(1);
        checks.same("7: let in, the whole stay is left", x.minutesLeft(0), 3);
        x.pass(2);
        checks.same("7: the last minute", x.minutesLeft(0), 1);
        checks.same("7: still inside", x.stateOf(0), 2);
        checks.same("7: the other one gave up in the minute ahead of the free permits", x.givenUp(), 1);
        checks.same("7: idle now", x.stateOf(1), 0);
        x.ask(1, 0, 1, 30, 1);
        checks.same("7: let in the last minute", x.pass(1), 1);
        checks.same("7: it did not give up", x.givenUp(), 1);
        checks.same("7: the first is idle", x.stateOf(0), 0);
        x.pass(29);
        checks.same("7: a stay of 30 has a minute left", x.minutesLeft(1), 1);
        x.pass(1);
        checks.same("7: a stay of 30 is over", x.stateOf(1), 0);
    }

    private void promise7PassGatesApart() {
        GoatTower x = tower(1, 0, 1, 1, 1, 1);
        x.addGate(1, 1);
        x.ask(0, 0, 1, 9, 9);
        x.ask(1, 0, 1, 9, 9);
        x.ask(2, 1, 1, 9, 9);
        x.ask(3, 1, 1, 9, 9);
        checks.same("7: one at each gate", x.pass(1), 2);
        checks.same("7: the first of gate 0", x.stateOf(0), 2);
        checks.same("7: the first of gate 1", x.stateOf(2), 2);
        checks.same("7: the second of gate 0", x.stateOf(1), 1);
        checks.same("7: the second of gate 1", x.stateOf(3), 1);
    }

    private void promise7PassFirstCome() {
        GoatTower x = tower(3, 0, 9, 9, 1);
        x.barge(0, 0, 1, 5);
        x.ask(1, 0, 3, 2, 20);
        x.ask(2, 0, 1, 2, 20);
        checks.same("7: the first one wants too much, and keeps the other waiting", x.pass(4), 0);
        checks.same("7: the first one comes in alone", x.pass(1), 1);
        checks.same("7: it is inside", x.stateOf(1), 2);
        checks.same("7: the other is not", x.stateOf(2), 1);
        checks.same("7: then the other", x.pass(2), 1);
    }

    private void promise7PassByHorns() {
        GoatTower x = tower(3, 1, 9, 8, 1, 7);
        x.barge(0, 0, 1, 5);
        x.ask(1, 0, 3, 2, 20);
        x.ask(2, 0, 1, 2, 20);
        x.ask(3, 0, 1, 2, 20);
        checks.same("7: by horns, who wants too much is passed by others", x.pass(1), 2);
        checks.same("7: a kid is in", x.stateOf(2), 2);
        checks.same("7: the one of 8 waits", x.stateOf(1), 1);
        x.callBack(2);
        x.callBack(3);
        x.ask(2, 0, 2, 2, 20);
        x.ask(3, 0, 2, 2, 20);
        checks.same("7: one of two", x.pass(1), 1);
        checks.same("7: the one with longer horns", x.stateOf(3), 2);
    }

    private void promise7PassAllAtOnce() {
        GoatTower x = tower(9, 0, 1, 1, 1, 1, 1, 1, 1, 1, 1);
        for (int i = 0; i < 9; i++) {
            x.ask(i, 0, 1, 1 + i, 1);
        }
        checks.same("7: all of nine", x.pass(1), 9);
        checks.same("7: nobody gave up", x.givenUp(), 0);
        checks.same("7: none is free", x.freeOf(0), 0);
        x.pass(1);
        checks.same("7: the first one left", x.freeOf(0), 1);
    }

    private void promise8Minute() {
        GoatTower x = tower(1, 0, 1);
        x.ask(0, 0, 1, 1, 1);
        checks.same("8: asking takes no time", x.minute(), 0);
        x.pass(1);
        checks.same("8: one", x.minute(), 1);
        x.pass(60);
        checks.same("8: sixty more", x.minute(), 61);
        x.givingUpIn(60);
        checks.same("8: looking ahead takes no time", x.minute(), 61);
    }

    private void promises9And10Counts() {
        GoatTower x = new GoatTower();
        for (int i = 1; i <= 4; i++) {
            x.addGate(i, i % 2);
            checks.same("9: gates", x.gates(), i);
            checks.same("10: no goats", x.goats(), 0);
        }
        for (int i = 1; i <= 12; i++) {
            x.addGoat(1);
            checks.same("10: goats", x.goats(), i);
        }
        checks.same("9: still", x.gates(), 4);
    }

    private void promises11And12WaitingInside() {
        GoatTower x = tower(2, 0, 1, 1, 1, 1);
        x.addGate(2, 1);
        x.ask(0, 0, 2, 2, 2);
        x.ask(1, 0, 1, 3, 9);
        x.ask(2, 1, 1, 3, 9);
        checks.same("11: three", x.waiting(), 3);
        checks.same("12: none", x.inside(), 0);
        x.barge(3, 1, 2, 1);
        checks.same("11: barging does not wait", x.waiting(), 3);
        checks.same("12: one barged", x.inside(), 1);
        x.pass(1);
        checks.same("11: one", x.waiting(), 1);
        checks.same("12: two", x.inside(), 2);
        x.callBack(1);
        x.callBack(2);
        checks.same("11: called back", x.waiting(), 0);
        checks.same("12: called back", x.inside(), 1);
    }

    private void promise13Starving() {
        GoatTower x = tower(1, 0, 1, 1, 1);
        x.barge(0, 0, 1, 30);
        x.ask(1, 0, 1, 1, 9);
        x.pass(7);
        checks.same("13: 7 minutes", x.starving(), 0);
        x.ask(2, 0, 1, 1, 60);
        x.pass(1);
        checks.same("13: 8 minutes", x.starving(), 1);
        x.callBack(2);
        x.ask(2, 0, 1, 1, 60);
        x.pass(1);
        checks.same("13: it gave up", x.starving(), 0);
        checks.same("13: given up", x.givenUp(), 1);
        x.pass(6);
        checks.same("13: only the wait for this counts", x.starving(), 0);
        checks.same("13: though it waited longer in all", x.waitedOf(2), 8);
        x.pass(1);
        checks.same("13: 8 for this", x.starving(), 1);
        x.callBack(0);
        x.pass(1);
        checks.same("13: one inside does not starve", x.starving(), 0);
        x.ask(1, 0, 1, 1, 60);
        checks.same("13: one who asks anew does not yet", x.starving(), 0);
        x.callBack(2);
        x.callBack(1);
        x.barge(1, 0, 1, 30);
        x.ask(0, 0, 1, 1, 60);
        x.ask(2, 0, 1, 1, 60);
        x.pass(9);
        checks.same("13: two of them, goat 0 too", x.starving(), 2);
    }

    private void promise14LetIn() {
        GoatTower x = tower(2, 0, 1, 1, 1);
        x.ask(0, 0, 1, 1, 9);
        x.barge(1, 0, 1, 1);
        checks.same("14: past others is not let in", x.letIn(), 0);
        x.pass(1);
        checks.same("14: one", x.letIn(), 1);
        x.ask(1, 0, 1, 1, 9);
        x.ask(2, 0, 1, 1, 9);
        x.pass(1);
        checks.same("14: one more that left once, and one", x.letIn(), 3);
        x.ask(0, 0, 1, 1, 9);
        x.minutesUntilIn(0);
        x.givingUpIn(60);
        x.permitsWanted(0);
        x.bestOrder(0);
        checks.same("14: looking ahead lets nobody in", x.letIn(), 3);
    }

    private void promise15GivenUp() {
        GoatTower x = tower(1, 0, 1, 1, 1);
        x.addGate(1, 1);
        x.barge(0, 0, 1, 30);
        x.ask(1, 0, 1, 1, 1);
        x.pass(1);
        checks.same("15: one", x.givenUp(), 1);
        x.ask(1, 0, 1, 1, 2);
        x.ask(2, 0, 1, 1, 3);
        x.pass(1);
        checks.same("15: not yet", x.givenUp(), 1);
        x.callBack(2);
        x.pass(1);
        checks.same("15: the same one again; one called back gave not up", x.givenUp(), 2);
        x.callBack(0);
        x.barge(0, 1, 1, 30);
        x.ask(1, 1, 1, 1, 60);
        x.ask(2, 1, 1, 1, 2);
        x.pass(2);
        checks.same("15: at another gate", x.givenUp(), 3);
        x.pass(60);
        checks.same("15: the last was let in", x.givenUp(), 3);
    }

    private void promises16To18Gates() {
        GoatTower x = tower(7, 0, 1, 1, 1);
        x.addGate(2, 1);
        x.barge(0, 0, 4, 9);
        x.ask(1, 0, 4, 9, 9);
        x.ask(2, 0, 2, 9, 9);
        checks.same("16: permits, held or not", x.permitsOf(0), 7);
        checks.same("16: of the other", x.permitsOf(1), 2);
        checks.same("17: those who wait hold none", x.freeOf(0), 3);
        checks.same("17: of the other", x.freeOf(1), 2);
        checks.same("18: two wait", x.waitingAt(0), 2);
        checks.same("18: at the other", x.waitingAt(1), 0);
        x.permitsWanted(0);
        checks.same("16: looking ahead adds none", x.permitsOf(0), 7);
        x.pass(9);
        checks.same("17: four come free, and six are taken", x.freeOf(0), 1);
        checks.same("18: both are in", x.waitingAt(0), 0);
        x.barge(0, 1, 2, 1);
        checks.same("17: none", x.freeOf(1), 0);
        x.pass(1);
        checks.same("17: all", x.freeOf(1), 2);
    }

    private void promise19NextAtFirstCome() {
        GoatTower x = tower(4, 0, 1, 9, 9, 5);
        checks.same("19: nobody waits", x.nextAt(0), -1);
        x.ask(2, 0, 4, 2, 20);
        x.ask(1, 0, 1, 2, 20);
        checks.same("19: the one who asked first, not the lower number", x.nextAt(0), 2);
        x.barge(3, 0, 1, 9);
        checks.same("19: it wants more than are free, so nobody", x.nextAt(0), -1);
        x.callBack(2);
        checks.same("19: the next one", x.nextAt(0), 1);
        x.ask(2, 0, 3, 2, 20);
        x.callBack(1);
        checks.same("19: just as many as are free", x.nextAt(0), 2);
        x.ask(1, 0, 1, 2, 20);
        checks.same("19: who asks anew stands behind", x.nextAt(0), 2);
    }

    private void promise19NextAtByHorns() {
        GoatTower x = tower(4, 1, 5, 5, 7, 2);
        checks.same("19: nobody waits", x.nextAt(0), -1);
        x.ask(1, 0, 1, 2, 60);
        x.ask(0, 0, 1, 2, 60);
        checks.same("19: of two alike, the one who asked first", x.nextAt(0), 1);
        x.ask(2, 0, 4, 2, 60);
        checks.same("19: the longest", x.nextAt(0), 2);
        x.barge(3, 0, 1, 9);
        checks.same("19: the longest wants too much", x.nextAt(0), 1);
        x.callBack(3);
        x.barge(3, 0, 4, 30);
        checks.same("19: none is free", x.nextAt(0), -1);
        x.callBack(2);
        x.callBack(0);
        x.pass(6);
        x.ask(2, 0, 1, 2, 60);
        x.callBack(3);
        checks.same("19: waiting makes 5 as long as 7, and it asked first", x.nextAt(0), 1);
        x.callBack(1);
        x.ask(1, 0, 1, 2, 60);
        checks.same("19: asked anew, it is 5 again", x.nextAt(0), 2);
    }

    private void promises20To22Goats() {
        GoatTower x = tower(3, 0, 1, 1);
        x.addGate(9, 1);
        checks.same("20: idle", x.stateOf(0), 0);
        checks.same("21: nowhere", x.gateOf(0), -1);
        checks.same("22: nothing", x.holds(0), 0);
        x.ask(0, 1, 8, 2, 9);
        checks.same("20: waits", x.stateOf(0), 1);
        checks.same("21: waits at", x.gateOf(0), 1);
        checks.same("22: who waits holds nothing", x.holds(0), 0);
        x.barge(1, 0, 3, 9);
        x.pass(1);
        checks.same("20: inside", x.stateOf(0), 2);
        checks.same("21: inside", x.gateOf(0), 1);
        checks.same("22: inside", x.holds(0), 8);
        checks.same("21: barged", x.gateOf(1), 0);
        checks.same("22: barged", x.holds(1), 3);
        x.pass(2);
        checks.same("20: idle again", x.stateOf(0), 0);
        checks.same("21: nowhere again", x.gateOf(0), -1);
        checks.same("22: nothing again", x.holds(0), 0);
        x.ask(0, 0, 1, 1, 1);
        x.pass(1);
        checks.same("20: gave up", x.stateOf(0), 0);
        checks.same("21: gave up", x.gateOf(0), -1);
    }

    private void promise23SeemingHorns() {
        GoatTower x = tower(1, 0, 9, 4);
        x.barge(0, 0, 1, 30);
        x.ask(1, 0, 1, 5, 60);
        int[] due = {4, 4, 5, 5, 5, 6, 6, 6, 7};
        for (int i = 0; i < due.length; i++) {
            x.pass(1);
            checks.same("23: after " + (i + 1) + " minutes", x.seemingHorns(1), due[i]);
        }
        checks.same("23: one inside", x.seemingHorns(0), 9);
        x.callBack(1);
        checks.same("23: idle", x.seemingHorns(1), 4);
        x.ask(1, 0, 1, 5, 60);
        checks.same("23: asked anew", x.seemingHorns(1), 4);
        x.pass(20);
        checks.same("23: 20 minutes", x.seemingHorns(1), 10);
        x.pass(1);
        checks.same("23: inside", x.stateOf(1), 2);
        checks.same("23: its own when inside", x.seemingHorns(1), 4);
    }

    private void promise24MinutesLeft() {
        GoatTower x = tower(1, 0, 1, 1);
        checks.same("24: idle", x.minutesLeft(0), 0);
        x.barge(0, 0, 1, 4);
        x.ask(1, 0, 1, 7, 60);
        checks.same("24: inside", x.minutesLeft(0), 4);
        checks.same("24: waits", x.minutesLeft(1), 60);
        x.pass(3);
        checks.same("24: inside still", x.minutesLeft(0), 1);
        checks.same("24: waits still", x.minutesLeft(1), 57);
        x.pass(1);
        checks.same("24: left", x.minutesLeft(0), 0);
        checks.same("24: let in", x.minutesLeft(1), 7);
        x.callBack(1);
        checks.same("24: called back", x.minutesLeft(1), 0);
        x.barge(0, 0, 1, 30);
        x.ask(1, 0, 1, 7, 5);
        x.pass(4);
        checks.same("24: a minute left to wait", x.minutesLeft(1), 1);
        x.pass(1);
        checks.same("24: gave up", x.minutesLeft(1), 0);
    }

    private void promise25WaitedOf() {
        GoatTower x = tower(1, 0, 1, 1);
        x.barge(0, 0, 1, 5);
        x.ask(1, 0, 1, 3, 3);
        checks.same("25: none yet", x.waitedOf(1), 0);
        x.pass(2);
        checks.same("25: two", x.waitedOf(1), 2);
        x.pass(1);
        checks.same("25: gave up", x.waitedOf(1), 3);
        x.pass(1);
        checks.same("25: idle minutes do not count", x.waitedOf(1), 3);
        x.ask(1, 0, 1, 3, 9);
        x.pass(1);
        checks.same("25: the minute in which it is let in does not count", x.waitedOf(1), 3);
        x.pass(3);
        checks.same("25: nor do those inside", x.waitedOf(1), 3);
        checks.same("25: nor barging", x.waitedOf(0), 0);
        x.barge(0, 0, 1, 30);
        x.ask(1, 0, 1, 3, 9);
        x.pass(4);
        x.callBack(1);
        checks.same("25: called back", x.waitedOf(1), 7);
    }

    private void promise26PlaceInLine() {
        GoatTower x = tower(1, 1, 1, 9, 5, 1);
        x.addGate(1, 0);
        checks.same("26: idle", x.placeInLine(0), -1);
        x.ask(2, 0, 1, 9, 60);
        x.ask(0, 0, 1, 9, 60);
        x.ask(3, 1, 1, 9, 60);
        x.ask(1, 0, 1, 9, 60);
        checks.same("26: the first", x.placeInLine(2), 0);
        checks.same("26: the second", x.placeInLine(0), 1);
        checks.same("26: the third, whatever its horns", x.placeInLine(1), 2);
        checks.same("26: at another gate", x.placeInLine(3), 0);
        x.callBack(2);
        checks.same("26: called back", x.placeInLine(2), -1);
        checks.same("26: the line moves on", x.placeInLine(0), 0);
        x.ask(2, 0, 1, 9, 60);
        checks.same("26: at the end", x.placeInLine(2), 2);
        x.pass(1);
        checks.same("26: inside", x.placeInLine(1), -1);
        checks.same("26: behind one", x.placeInLine(2), 1);
    }

    private void promise27MinutesUntilIn() {
        GoatTower x = tower(3, 0, 1, 1, 1, 1);
        checks.asks("27: idle", x, -1, () -> x.minutesUntilIn(0));
        x.ask(0, 0, 2, 4, 10);
        x.ask(1, 0, 2, 5, 10);
        x.ask(2, 0, 3, 5, 9);
        x.ask(3, 0, 1, 5, 20);
        checks.asks("27: in this one", x, 1, () -> x.minutesUntilIn(0));
        checks.asks("27: when the first one leaves", x, 5, () -> x.minutesUntilIn(1));
        checks.asks("27: gives up", x, -1, () -> x.minutesUntilIn(2));
        checks.asks("27: let in when the one ahead gave up", x, 10, () -> x.minutesUntilIn(3));
        x.pass(1);
        checks.asks("27: inside", x, -1, () -> x.minutesUntilIn(0));
        checks.asks("27: a minute less", x, 4, () -> x.minutesUntilIn(1));
        x.pass(3);
        checks.asks("27: in this one now", x, 1, () -> x.minutesUntilIn(1));
        x.callBack(1);
        x.callBack(2);
        checks.asks("27: in this one too", x, 1, () -> x.minutesUntilIn(3));
    }

    private void promise27MinutesUntilInEdges() {
        GoatTower x = tower(1, 0, 1, 1, 1, 1);
        x.ask(0, 0, 1, 30, 60);
        x.ask(1, 0, 1, 29, 60);
        x.ask(2, 0, 1, 30, 60);
        x.ask(3, 0, 1, 30, 60);
        checks.asks("27: after 30", x, 31, () -> x.minutesUntilIn(1));
        checks.asks("27: the sixtieth", x, 60, () -> x.minutesUntilIn(2));
        checks.asks("27: not within the wait", x, -1, () -> x.minutesUntilIn(3));
        x.pass(59);
        checks.same("27: still waiting", x.stateOf(2), 1);
        checks.asks("27: in this one", x, 1, () -> x.minutesUntilIn(2));
        checks.asks("27: gives up in this one", x, -1, () -> x.minutesUntilIn(3));
        x.pass(1);
        checks.same("27: it came", x.stateOf(2), 2);
        checks.same("27: the other gave up", x.givenUp(), 1);
    }

    private void promise27MinutesUntilInOrder() {
        GoatTower x = tower(1, 0, 5, 5, 5);
        x.barge(2, 0, 1, 4);
        x.ask(1, 0, 1, 3, 60);
        x.ask(0, 0, 1, 3, 60);
        checks.asks("27: the one who asked first", x, 4, () -> x.minutesUntilIn(1));
        checks.asks("27: the other one, of the lower number", x, 7, () -> x.minutesUntilIn(0));
        x.permitsWanted(0);
        checks.same("27: permits that were thought of do not count", x.minutesUntilIn(0), 7);
        GoatTower y = tower(1, 1, 5, 7, 5);
        y.barge(2, 0, 1, 8);
        y.ask(0, 0, 1, 3, 60);
        y.pass(6);
        y.ask(1, 0, 1, 3, 60);
        checks.asks("27: by horns as they seem after waiting", y, 2, () -> y.minutesUntilIn(0));
        checks.asks("27: behind it", y, 5, () -> y.minutesUntilIn(1));
        y.bestOrder(0);
        checks.same("27: an order that was thought of does not count", y.minutesUntilIn(1), 5);
    }

    private void promise28GivingUpIn() {
        GoatTower x = tower(1, 0, 1, 1, 1, 1);
        x.addGate(1, 1);
        for (int minutes : new int[] {0, -1, 61, Integer.MIN_VALUE, Integer.MAX_VALUE}) {
            checks.badArgument("28: minutes " + minutes, x, () -> x.givingUpIn(minutes));
        }
        checks.asks("28: nobody waits", x, 0, () -> x.givingUpIn(60));
        x.barge(0, 0, 1, 10);
        x.ask(1, 0, 1, 1, 5);
        x.ask(2, 0, 1, 1, 60);
        checks.asks("28: not in 4", x, 0, () -> x.givingUpIn(4));
        checks.asks("28: in 5", x, 1, () -> x.givingUpIn(5));
        x.barge(3, 1, 1, 30);
        x.callBack(2);
        x.ask(2, 1, 1, 1, 7);
        checks.asks("28: at one gate", x, 1, () -> x.givingUpIn(6));
        checks.asks("28: at both", x, 2, () -> x.givingUpIn(7));
        x.pass(5);
        checks.same("28: one gave up", x.givenUp(), 1);
        checks.asks("28: only what is yet to come", x, 0, () -> x.givingUpIn(1));
        checks.asks("28: the other one", x, 1, () -> x.givingUpIn(60));
    }

    private void promise28GivingUpInAfterOthers() {
        GoatTower x = tower(1, 0, 1, 1, 1);
        x.barge(0, 0, 1, 30);
        x.ask(1, 0, 1, 1, 5);
        x.ask(2, 0, 1, 1, 40);
        checks.same("28: one", x.givingUpIn(60), 1);
        checks.same("28: twice alike", x.givingUpIn(60), 1);
        x.minutesUntilIn(2);
        checks.same("28: after minutesUntilIn", x.givingUpIn(60), 1);
        checks.same("29: one more would do", x.permitsWanted(0), 1);
        checks.same("28: after permitsWanted", x.givingUpIn(60), 1);
        x.bestOrder(0);
        checks.same("28: after bestOrder", x.givingUpIn(5), 1);
    }

    private void promise29PermitsWanted() {
        GoatTower x = tower(2, 0, 1, 1, 1, 1);
        checks.asks("29: nobody waits", x, 0, () -> x.permitsWanted(0));
        x.barge(0, 0, 2, 30);
        x.ask(1, 0, 1, 9, 40);
        checks.asks("29: it can wait", x, 0, () -> x.permitsWanted(0));
        x.ask(2, 0, 2, 30, 8);
        checks.asks("29: the first comes, stays 9 minutes, and the second gives up with 2", x, 3, () -> x.permitsWanted(0));
        x.callBack(1);
        checks.asks("29: two", x, 2, () -> x.permitsWanted(0));
        x.ask(1, 0, 1, 9, 1);
        checks.asks("29: three", x, 3, () -> x.permitsWanted(0));
        checks.same("29: permits stay", x.permitsOf(0), 2);
        x.pass(8);
        checks.asks("29: all gave up", x, 0, () -> x.permitsWanted(0));
    }

    private void promise29PermitsWantedEdges() {
        GoatTower x = tower(9, 0, 1, 1, 1, 1);
        x.addGate(1, 0);
        x.barge(0, 0, 9, 30);
        x.ask(1, 0, 9, 30, 1);
        checks.asks("29: nine, beyond nine in all", x, 9, () -> x.permitsWanted(0));
        x.barge(3, 1, 1, 30);
        x.ask(2, 1, 1, 1, 1);
        checks.asks("29: another gate does not count", x, 9, () -> x.permitsWanted(0));
        checks.asks("29: of that gate", x, 1, () -> x.permitsWanted(1));
        x.callBack(2);
        x.ask(2, 0, 1, 30, 1);
        checks.asks("29: nine do not do", x, -1, () -> x.permitsWanted(0));
        x.callBack(2);
        x.ask(2, 0, 1, 30, 31);
        checks.asks("29: the other can wait", x, 9, () -> x.permitsWanted(0));
        x.pass(1);
        checks.same("29: those who gave up", x.givenUp(), 1);
        checks.asks("29: those of earlier do not count", x, 0, () -> x.permitsWanted(0));
    }

    private void promise29PermitsWantedInTheSixtiethMinute() {
        GoatTower x = tower(1, 0, 1, 1, 1, 1);
        x.barge(0, 0, 1, 30);
        x.ask(1, 0, 1, 30, 60);
        x.ask(2, 0, 1, 30, 60);
        checks.asks("29: the last one comes in the sixtieth minute", x, 0, () -> x.permitsWanted(0));
        x.ask(3, 0, 1, 30, 60);
        checks.asks("29: one gives up in the sixtieth minute", x, 1, () -> x.permitsWanted(0));
        checks.asks("28: not in 59", x, 0, () -> x.givingUpIn(59));
        checks.asks("28: in 60", x, 1, () -> x.givingUpIn(60));
    }

    private void promise30BestOrder() {
        GoatTower x = tower(2, 0, 1, 1, 9);
        checks.asks("30: nobody waits", x, 0, () -> x.bestOrder(0));
        x.barge(0, 0, 1, 30);
        x.ask(1, 0, 2, 1, 5);
        x.ask(2, 0, 1, 1, 3);
        checks.asks("30: by horns the second one gets past the first", x, 1, () -> x.bestOrder(0));
        checks.same("30: the gate's own order stays", x.nextAt(0), -1);
        x.callBack(0);
        checks.asks("30: with both nobody gives up", x, 0, () -> x.bestOrder(0));
    }

    private void promise30BestOrderEdges() {
        GoatTower x = tower(1, 1, 9, 1, 5, 5);
        x.addGate(1, 1);
        x.ask(1, 0, 1, 1, 1);
        x.ask(0, 0, 1, 1, 2);
        checks.asks("30: by first come nobody gives up, by horns one", x, 0, () -> x.bestOrder(0));
        checks.same("30: the gate's own order stays", x.nextAt(0), 0);
        x.barge(2, 1, 1, 30);
        x.ask(3, 1, 1, 1, 1);
        checks.asks("30: with both one gives up", x, 0, () -> x.bestOrder(1));
        x.callBack(1);
        x.callBack(0);
        x.ask(0, 0, 1, 1, 2);
        x.ask(1, 0, 1, 1, 1);
        checks.asks("30: with both one gives up here too", x, 0, () -> x.bestOrder(0));
        GoatTower y = tower(1, 1, 1, 9);
        y.ask(0, 0, 1, 1, 2);
        y.ask(1, 0, 1, 1, 1);
        checks.asks("30: by horns the one in a hurry comes first", y, 1, () -> y.bestOrder(0));
    }

    private void promise31MeanWaited() {
        GoatTower x = new GoatTower();
        checks.same("31: without goats", x.meanWaited(), 0.0);
        x.addGate(1, 0);
        checks.same("31: with a gate", x.meanWaited(), 0.0);
        for (int i = 0; i < 3; i++) {
            x.addGoat(1);
        }
        checks.same("31: nobody waited", x.meanWaited(), 0.0);
        x.barge(0, 0, 1, 30);
        x.ask(1, 0, 1, 1, 1);
        x.ask(2, 0, 1, 1, 60);
        x.pass(4);
        checks.same("31: five thirds", x.meanWaited(), 5.0 / 3.0);
        x.addGoat(9);
        checks.same("31: of four", x.meanWaited(), 1.25);
        x.callBack(2);
        checks.same("31: called back", x.meanWaited(), 1.25);
        x.callBack(0);
        x.barge(1, 0, 1, 30);
        x.ask(0, 0, 1, 1, 60);
        x.pass(2);
        checks.same("31: goat 0 too", x.meanWaited(), 1.75);
    }

    private void promise32Digest() {
        GoatTower x = new GoatTower();
        long d = 2161;
        for (int i = 0; i < 8; i++) {
            d = d * 31;
        }
        checks.same("32: a new one", x.digest(), d);
        x.addGate(3, 0);
        x.addGate(2, 1);
        for (int i = 1; i <= 6; i++) {
            x.addGoat(i);
        }
        x.barge(0, 0, 3, 30);
        x.ask(1, 0, 2, 7, 5);
        x.ask(2, 1, 2, 9, 20);
        x.ask(3, 1, 1, 9, 3);
        x.ask(4, 1, 2, 9, 40);
        checks.same("32: of all answers", x.digest(), digestOf(x));
        x.pass(10);
        checks.same("32: later", x.digest(), digestOf(x));
        x.pass(2);
        checks.same("32: twice alike", x.digest(), x.digest());
    }

    private void promise32DigestOfAFullTower() {
        GoatTower x = tower(2, 0, 1, 2, 3, 4, 5, 6, 7, 8, 9, 1, 2, 3);
        for (int i = 1; i < 4; i++) {
            x.addGate(2 + i, i % 2);
        }
        x.barge(0, 0, 1, 30);
        x.ask(2, 0, 2, 1, 14);
        x.ask(1, 0, 1, 1, 12);
        for (int i = 3; i < 12; i++) {
            x.ask(i, 1 + i % 3, 1 + i % 2, 19 + i, 60 - i);
        }
        x.pass(10);
        checks.same("32: somebody starves", x.starving() > 0 ? 1 : 0, 1);
        checks.same("32: another order is better", x.bestOrder(0), 1);
        checks.same("32: of a full tower", x.digest(), digestOf(x));
        int waited = 0;
        for (int i = 0; i < 12; i++) {
            waited += x.waitedOf(i);
        }
        checks.same("31: of a full tower", x.meanWaited(), waited / 12.0);
    }

    private static long digestOf(GoatTower x) {
        long[] ofTower = {x.minute(), x.gates(), x.goats(), x.waiting(), x.inside(), x.starving(), x.letIn(), x.givenUp()};
        long d = mix(2161, ofTower);
        for (int g = 0; g < x.gates(); g++) {
            long[] ofGate = {x.permitsOf(g), x.freeOf(g), x.waitingAt(g), x.nextAt(g), x.permitsWanted(g), x.bestOrder(g)};
            d = mix(d, ofGate);
        }
        for (int g = 0; g < x.goats(); g++) {
            long[] ofGoat = {x.stateOf(g), x.gateOf(g), x.holds(g), x.seemingHorns(g),
                x.minutesLeft(g), x.waitedOf(g), x.placeInLine(g), x.minutesUntilIn(g)};
            d = mix(d, ofGoat);
        }
        return d;
    }

    private static long mix(long start, long[] numbers) {
        long d = start;
        for (long number : numbers) {
            d = d * 31 + number;
        }
        return d;
    }

    private void wrongNumbersOfGates() {
        GoatTower x = tower(1, 0, 1, 1, 1, 1, 1);
        x.addGate(1, 0);
        for (int no : NO_INDEX) {
            checks.outOfBounds("16: gate " + no, x, () -> x.permitsOf(no));
            checks.outOfBounds("17: gate " + no, x, () -> x.freeOf(no));
            checks.outOfBounds("18: gate " + no, x, () -> x.waitingAt(no));
            checks.outOfBounds("19: gate " + no, x, () -> x.nextAt(no));
            checks.outOfBounds("29: gate " + no, x, () -> x.permitsWanted(no));
            checks.outOfBounds("30: gate " + no, x, () -> x.bestOrder(no));
        }
    }

    private void wrongNumbersOfGoats() {
        GoatTower x = tower(1, 0, 1, 1);
        x.addGate(1, 0);
        x.addGate(1, 0);
        for (int no : NO_INDEX) {
            checks.outOfBounds("6: goat " + no, x, () -> x.callBack(no));
            checks.outOfBounds("20: goat " + no, x, () -> x.stateOf(no));
            checks.outOfBounds("21: goat " + no, x, () -> x.gateOf(no));
            checks.outOfBounds("22: goat " + no, x, () -> x.holds(no));
            checks.outOfBounds("23: goat " + no, x, () -> x.seemingHorns(no));
            checks.outOfBounds("24: goat " + no, x, () -> x.minutesLeft(no));
            checks.outOfBounds("25: goat " + no, x, () -> x.waitedOf(no));
            checks.outOfBounds("26: goat " + no, x, () -> x.placeInLine(no));
            checks.outOfBounds("27: goat " + no, x, () -> x.minutesUntilIn(no));
        }
    }
}
