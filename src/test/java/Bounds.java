import java.lang.reflect.InvocationTargetException;
import java.lang.reflect.Method;
import java.util.ArrayList;
import java.util.Arrays;
import java.util.List;
import java.util.TreeMap;

/**
 * What the tests of boundary cases have in common. A test is a method named after the promise and the case.
 * Whether a call changed anything is seen by a second tower of the same history that was spared the call.
 */
abstract class Bounds {
    static final String INDEX = "IndexOutOfBoundsException";
    static final String ARGUMENT = "IllegalArgumentException";
    static final String STATE = "IllegalStateException";
    static final int LEAST = Integer.MIN_VALUE;
    static final int GREATEST = Integer.MAX_VALUE;

    interface Recipe {
        GoatTower make();
    }

    interface On {
        long answer(GoatTower x);
    }

    interface OnNumber {
        long answer(GoatTower x, int number);
    }

    private final Checks checks = new Checks();
    private String name = "";

    /** Finds the tests by their names, so that none is forgotten; each promise of these must have one. */
    final void runAll(int firstPromise, int lastPromise) {
        TreeMap<String, Method> tests = new TreeMap<>();
        for (Method m : getClass().getDeclaredMethods()) {
            if (m.getName().matches("(whatItIs|terms|promise\\d\\d)_\\w+")) {
                tests.put(m.getName(), m);
            }
        }
        for (int promise = firstPromise; promise <= lastPromise; promise++) {
            String head = (promise < 10 ? "promise0" : "promise") + promise + "_";
            checks.isTrue(head + " has a test", tests.ceilingKey(head) != null && tests.ceilingKey(head).startsWith(head));
        }
        for (Method m : tests.values()) {
            name = m.getName();
            run(m);
        }
        checks.end(getClass().getSimpleName() + ", " + tests.size() + " tests");
    }

    private void run(Method test) {
        try {
            test.invoke(this);
        } catch (InvocationTargetException e) {
            checks.same(name + " ended with " + e.getCause(), 1, 0);
        } catch (IllegalAccessException e) {
            throw new IllegalStateException(e);
        }
    }

    final void due(String what, long due, long got) {
        checks.same(name + ": " + what, got, due);
    }

    final void dueD(String what, double due, double got) {
        checks.same(name + ": " + what, got, due);
    }

    final void isTrue(String what, boolean holds) {
        checks.isTrue(name + ": " + what, holds);
    }

    final void alike(String what, GoatTower one, GoatTower other) {
        checks.same(name + ": " + what, picture(one), picture(other));
    }

    /** The call throws just this, and changes nothing. */
    final void refused(String what, String exception, Recipe history, On call) {
        withoutChange(what, exception, history, call);
    }

    /** The call answers this, and changes nothing. */
    final void foresees(String what, long due, Recipe history, On call) {
        withoutChange(what, Long.toString(due), history, call);
    }

    private void withoutChange(String what, String due, Recipe history, On call) {
        GoatTower tried = history.make();
        GoatTower spared = history.make();
        checks.same(name + ": " + what, Checks.outcome(() -> call.answer(tried)), due);
        alike(what + ", all answers after it", tried, spared);
        checks.same(name + ": " + what, Checks.outcome(() -> call.answer(tried)), due);
        checks.same(name + ": " + what + ", what goes on after it", goOn(tried), goOn(spared));
        alike(what + ", all answers later on", tried, spared);
    }

    /** Every number of gates or goats that there is is taken, and those just beyond, and far ones, are refused. */
    final void onlyThose(int count, Recipe history, OnNumber call) {
        for (int number : new int[] {-1, count, LEAST, GREATEST}) {
            refused("number " + number + " of " + count, INDEX, history, x -> call.answer(x, number));
        }
        for (int number = 0; number < count; number++) {
            int taken = number;
            GoatTower x = history.make();
            String outcome = Checks.outcome(() -> call.answer(x, taken));
            isTrue("number " + number + " of " + count + " is no index out of bounds", !outcome.equals(INDEX));
        }
    }

    /** What both towers answer to calls that may be refused: hidden numbers come to light by them. */
    private static String goOn(GoatTower x) {
        List<String> answers = new ArrayList<>();
        answers.add(Checks.outcome(() -> x.addGate(2, 1)));
        answers.add(Checks.outcome(() -> x.addGoat(6)));
        for (int i = 11; i >= 0; i--) {
            int goat = i;
            answers.add(Checks.outcome(() -> x.ask(goat, goat % 2, 1, 2 + goat, 4 + goat)));
        }
        for (int i = 0; i < 4; i++) {
            answers.add(Checks.outcome(() -> x.pass(2)));
        }
        return answers.toString();
    }

    /** All that a tower answers, in some 140 calls. */
    static String picture(GoatTower x) {
        List<String> answers = new ArrayList<>();
        long[] ofTower = {x.minute(), x.gates(), x.goats(), x.waiting(), x.inside(), x.starving(),
            x.letIn(), x.givenUp(), x.givingUpIn(1), x.givingUpIn(60), x.digest()};
        answers.add(Arrays.toString(ofTower));
        answers.add(Double.toString(x.meanWaited()));
        for (int g = 0; g < x.gates(); g++) {
            long[] ofGate = {x.permitsOf(g), x.freeOf(g), x.waitingAt(g), x.nextAt(g), x.permitsWanted(g), x.bestOrder(g)};
            answers.add("gate " + g + Arrays.toString(ofGate));
        }
        for (int g = 0; g < x.goats(); g++) {
            long[] ofGoat = {x.stateOf(g), x.gateOf(g), x.holds(g), x.seemingHorns(g),
                x.minutesLeft(g), x.waitedOf(g), x.placeInLine(g), x.minutesUntilIn(g)};
            answers.add("goat " + g + Arrays.toString(ofGoat));
        }
        return answers.toString();
    }

    static GoatTower tower(int permits, int order, int... horns) {
        GoatTower x = new GoatTower();
        x.addGate(permits, order);
        for (int h : horns) {
            x.addGoat(h);
        }
        return x;
    }

    static void addGoats(GoatTower x, int count) {
        for (int i = 0; i < count; i++) {
            x.addGoat(i % 9 + 1);
        }
    }

    /** Two gates; six goats: 0 inside at gate 0, 1 starves there, 2 inside at gate 1, 3 and 4 wait there, 5 idle. */
    static GoatTower busy() {
        GoatTower x = tower(3, 0, 5, 1, 9, 4, 7, 2);
        x.addGate(9, 1);
        x.barge(0, 0, 2, 30);
        x.ask(1, 0, 2, 5, 40);
        x.ask(2, 1, 6, 20, 10);
        x.ask(3, 0, 1, 3, 4);
        x.pass(9);
        x.ask(4, 1, 4, 3, 20);
        x.ask(3, 1, 9, 8, 30);
        return x;
    }

    /** Four gates with 1, 2, 3 and 9 permits, by both orders, and twelve goats, all of them idle. */
    static GoatTower full() {
        GoatTower x = new GoatTower();
        x.addGate(1, 0);
        x.addGate(2, 1);
        x.addGate(3, 0);
        x.addGate(9, 1);
        addGoats(x, 12);
        return x;
    }

    /** A full tower in which four goats are inside and eight wait, two at each gate. */
    static GoatTower crowded() {
        GoatTower x = full();
        for (int i = 0; i < 4; i++) {
            x.barge(i, i, x.permitsOf(i), 10 + i);
        }
        for (int i = 4; i < 12; i++) {
            x.ask(i, i % 4, 1, i, 3 * i);
        }
        x.pass(2);
        return x;
    }
}
