import java.util.ArrayList;
import java.util.List;

/** Long mixed runs, each call beside a plain model that was written from the document in another way. */
public final class ModelTest {
    private static final int RUNS = 400;
    private static final int ACTIONS = 60;
    private static final int QUERIES = 2;
    private static final int[] ODD = {-1, 0, 4, 12, 31, 61, Integer.MIN_VALUE, Integer.MAX_VALUE};

    private final Checks checks = new Checks();
    private long seed = 20261119L;

    private ModelTest() {
    }

    public static void main(String[] args) {
        ModelTest t = new ModelTest();
        for (int run = 0; run < RUNS; run++) {
            t.run(run);
        }
        t.checks.end("ModelTest");
    }

    /** At the most 16 calls, 60 times 6, and some 110 at the end: within the document's 512. */
    private void run(int run) {
        GoatTower x = new GoatTower();
        Model m = new Model();
        int gates = 1 + below(4);
        for (int i = 0; i < gates; i++) {
            addGate(run, x, m, 1 + below(run % 3 == 0 ? 9 : 3), below(2));
        }
        int goats = 1 + below(12);
        for (int i = 0; i < goats; i++) {
            addGoat(run, x, m, 1 + below(9));
        }
        for (int i = 0; i < ACTIONS; i++) {
            act(run, x, m);
            checks.same("run " + run + ": digest()", x.digest(), m.digest());
            for (int q = 0; q < QUERIES; q++) {
                query(run, x, m, below(17), number(12));
            }
        }
        for (int kind = 0; kind < 7; kind++) {
            query(run, x, m, kind, 0);
        }
        checks.same("run " + run + ": meanWaited()", x.meanWaited(), m.meanWaited());
        for (int n = 0; n < 12; n++) {
            for (int kind = n < 4 ? 7 : 11; kind < 17; kind++) {
                query(run, x, m, kind, n);
            }
        }
    }

    private void act(int run, GoatTower x, Model m) {
        int kind = below(20);
        if (kind < 9) {
            ask(run, x, m, number(m.goats.size()), number(m.gates.size()), 1 + number(4), 1 + number(30), 1 + number(60));
        } else if (kind < 11) {
            ask(run, x, m, below(12), below(4), 1 + below(3), 1 + below(6), 1 + below(12));
        } else if (kind < 13) {
            barge(run, x, m, number(m.goats.size()), number(m.gates.size()), 1 + number(3), 1 + number(30));
        } else if (kind < 14) {
            int goat = number(m.goats.size());
            checks.same("run " + run + ": callBack(" + goat + ")",
                Checks.outcome(() -> x.callBack(goat)), Checks.outcome(() -> m.callBack(goat)));
        } else if (kind < 19) {
            int minutes = below(8) == 0 ? number(61) : 1 + below(4);
            checks.same("run " + run + ": pass(" + minutes + ")",
                Checks.outcome(() -> x.pass(minutes)), Checks.outcome(() -> m.pass(minutes)));
        } else if (below(2) == 0) {
            addGate(run, x, m, number(11), number(3));
        } else {
            addGoat(run, x, m, number(11));
        }
    }

    private void addGate(int run, GoatTower x, Model m, int permits, int order) {
        checks.same("run " + run + ": addGate(" + permits + ", " + order + ")",
            Checks.outcome(() -> x.addGate(permits, order)), Checks.outcome(() -> m.addGate(permits, order)));
    }

    private void addGoat(int run, GoatTower x, Model m, int horns) {
        checks.same("run " + run + ": addGoat(" + horns + ")",
            Checks.outcome(() -> x.addGoat(horns)), Checks.outcome(() -> m.addGoat(horns)));
    }

    private void ask(int run, GoatTower x, Model m, int goat, int gate, int many, int stay, int waits) {
        checks.same("run " + run + ": ask(" + goat + ", " + gate + ", " + many + ", " + stay + ", " + waits + ")",
            Checks.outcome(() -> x.ask(goat, gate, many, stay, waits)),
            Checks.outcome(() -> m.ask(goat, gate, many, stay, waits)));
    }

    private void barge(int run, GoatTower x, Model m, int goat, int gate, int many, int stay) {
        checks.same("run " + run + ": barge(" + goat + ", " + gate + ", " + many + ", " + stay + ")",
            Checks.outcome(() -> x.barge(goat, gate, many, stay)),
            Checks.outcome(() -> m.barge(goat, gate, many, stay)));
    }

    private void query(int run, GoatTower x, Model m, int kind, int n) {
        checks.same("run " + run + ": query " + kind + " of " + n,
            Checks.outcome(() -> ofProgram(x, kind, n)), Checks.outcome(() -> m.answer(kind, n)));
    }

    private static long ofProgram(GoatTower x, int kind, int n) {
        switch (kind) {
            case 0: return x.minute();
            case 1: return x.waiting();
            case 2: return x.inside();
            case 3: return x.starving();
            case 4: return x.letIn();
            case 5: return x.givenUp();
            case 6: return x.givingUpIn(n + 1);
            case 7: return x.freeOf(n);
            case 8: return x.nextAt(n);
            case 9: return x.permitsWanted(n);
            case 10: return x.bestOrder(n);
            case 11: return x.stateOf(n) * 100 + x.gateOf(n);
            case 12: return x.holds(n);
            case 13: return x.seemingHorns(n);
            case 14: return x.minutesLeft(n);
            case 15: return x.placeInLine(n);
            default: return x.minutesUntilIn(n);
        }
    }

    /** Mostly below the bound, now and then an odd one. */
    private int number(int bound) {
        return bound < 1 || below(12) == 0 ? ODD[below(ODD.length)] : below(bound);
    }

    private int below(int bound) {
        seed = seed * 6364136223846793005L + 1442695040888963407L;
        return (int) ((seed >>> 33) % bound);
    }
}

/** Lines are lists here, and who looks ahead does so on a copy of all. */
final class Model {
    static final class Gate {
        int permits;
        int order;
        final List<Integer> line = new ArrayList<>();
        final List<Integer> inside = new ArrayList<>();
        final List<Integer> gaveUp = new ArrayList<>();
    }

    static final class Goat {
        int horns;
        int wants;
        int stay;
        int waits;
        int waited;
        int waitedEver;
        int minutesInside;
    }

    final List<Gate> gates = new ArrayList<>();
    final List<Goat> goats = new ArrayList<>();
    final List<Integer> cameIn = new ArrayList<>();
    int minute;

    Model copy() {
        Model m = new Model();
        m.minute = minute;
        m.cameIn.addAll(cameIn);
        for (Gate g : gates) {
            Gate c = new Gate();
            c.permits = g.permits;
            c.order = g.order;
            c.line.addAll(g.line);
            c.inside.addAll(g.inside);
            c.gaveUp.addAll(g.gaveUp);
            m.gates.add(c);
        }
        for (Goat g : goats) {
            Goat c = new Goat();
            c.horns = g.horns;
            c.wants = g.wants;
            c.stay = g.stay;
            c.waits = g.waits;
            c.waited = g.waited;
            c.waitedEver = g.waitedEver;
            c.minutesInside = g.minutesInside;
            m.goats.add(c);
        }
        return m;
    }

    static void need(boolean holds, RuntimeException otherwise) {
        if (!holds) {
            throw otherwise;
        }
    }

    static boolean within(int x, int low, int high) {
        return low <= x && x <= high;
    }

    void needGate(int gate) {
        need(within(gate, 0, gates.size() - 1), new IndexOutOfBoundsException());
    }

    void needGoat(int goat) {
        need(within(goat, 0, goats.size() - 1), new IndexOutOfBoundsException());
    }

    int addGate(int permits, int order) {
        need(within(permits, 1, 9) && within(order, 0, 1), new IllegalArgumentException());
        need(gates.size() < 4, new IllegalStateException());
        Gate g = new Gate();
        g.permits = permits;
        g.order = order;
        gates.add(g);
        return gates.size() - 1;
    }

    int addGoat(int horns) {
        need(within(horns, 1, 9), new IllegalArgumentException());
        need(goats.size() < 12, new IllegalStateException());
        Goat g = new Goat();
        g.horns = horns;
        goats.add(g);
        return goats.size() - 1;
    }

    int ask(int goat, int gate, int many, int stay, int waits) {
        needGoat(goat);
        needGate(gate);
        Gate at = gates.get(gate);
        need(within(many, 1, at.permits) && within(stay, 1, 30) && within(waits, 1, 60), new IllegalArgumentException());
        need(stateOf(goat) == 0, new IllegalStateException());
        Goat g = goats.get(goat);
        g.wants = many;
        g.stay = stay;
        g.waits = waits;
        g.waited = 0;
        at.line.add(goat);
        return at.line.size();
    }

    int barge(int goat, int gate, int many, int stay) {
        needGoat(goat);
        needGate(gate);
        Gate at = gates.get(gate);
        need(within(many, 1, at.permits) && within(stay, 1, 30), new IllegalArgumentException());
        need(stateOf(goat) == 0 && many <= free(at), new IllegalStateException());
        Goat g = goats.get(goat);
        g.wants = many;
        g.stay = stay;
        g.minutesInside = 0;
        at.inside.add(goat);
        return free(at);
    }

    int callBack(int goat) {
        needGoat(goat);
        need(stateOf(goat) != 0, new IllegalStateException());
        int back = holds(goat);
        for (Gate g : gates) {
            g.line.remove(Integer.valueOf(goat));
            g.inside.remove(Integer.valueOf(goat));
        }
        return back;
    }

    int pass(int minutes) {
        need(within(minutes, 1, 60), new IllegalArgumentException());
        int before = cameIn.size();
        for (int i = 0; i < minutes; i++) {
            step();
        }
        return cameIn.size() - before;
    }

    void step() {
        for (Gate g : gates) {
            for (int goat : new ArrayList<>(g.inside)) {
                Goat one = goats.get(goat);
                one.minutesInside++;
                if (one.minutesInside == one.stay) {
                    g.inside.remove(Integer.valueOf(goat));
                }
            }
        }
        for (Gate g : gates) {
            while (next(g) != -1) {
                int goat = next(g);
                g.line.remove(Integer.valueOf(goat));
                g.inside.add(goat);
                goats.get(goat).minutesInside = 0;
                cameIn.add(goat);
            }
        }
        for (Gate g : gates) {
            for (int goat : new ArrayList<>(g.line)) {
                Goat one = goats.get(goat);
                one.waited++;
                one.waitedEver++;
                if (one.waited == one.waits) {
                    g.line.remove(Integer.valueOf(goat));
                    g.gaveUp.add(goat);
                }
            }
        }
        minute++;
    }

    int free(Gate g) {
        int free = g.permits;
        for (int goat : g.inside) {
            free -= goats.get(goat).wants;
        }
        return free;
    }

    int next(Gate g) {
        if (g.order == 0) {
            return !g.line.isEmpty() && goats.get(g.line.get(0)).wants <= free(g) ? g.line.get(0) : -1;
        }
        int found = -1;
        for (int goat : g.line) {
            boolean fits = goats.get(goat).wants <= free(g);
            if (fits && (found == -1 || seemingHorns(goat) > seemingHorns(found))) {
                found = goat;
            }
        }
        return found;
    }

    int gateOf(int goat) {
        needGoat(goat);
        for (int i = 0; i < gates.size(); i++) {
            if (gates.get(i).line.contains(goat) || gates.get(i).inside.contains(goat)) {
                return i;
            }
        }
        return -1;
    }

    int stateOf(int goat) {
        int gate = gateOf(goat);
        return gate == -1 ? 0 : gates.get(gate).line.contains(goat) ? 1 : 2;
    }

    int holds(int goat) {
        return stateOf(goat) == 2 ? goats.get(goat).wants : 0;
    }

    int seemingHorns(int goat) {
        Goat g = goatAt(goat);
        return stateOf(goat) == 1 ? g.horns + g.waited / 3 : g.horns;
    }

    int minutesLeft(int goat) {
        Goat g = goatAt(goat);
        int state = stateOf(goat);
        return state == 0 ? 0 : state == 1 ? g.waits - g.waited : g.stay - g.minutesInside;
    }

    int placeInLine(int goat) {
        return stateOf(goat) == 1 ? gates.get(gateOf(goat)).line.indexOf(goat) : -1;
    }

    Goat goatAt(int goat) {
        needGoat(goat);
        return goats.get(goat);
    }

    Gate gateAt(int gate) {
        needGate(gate);
        return gates.get(gate);
    }

    int inState(int state) {
        int count = 0;
        for (int i = 0; i < goats.size(); i++) {
            count += stateOf(i) == state ? 1 : 0;
        }
        return count;
    }

    int starving() {
        int count = 0;
        for (Gate g : gates) {
            for (int goat : g.line) {
                count += goats.get(goat).waited >= 8 ? 1 : 0;
            }
        }
        return count;
    }

    int givenUp() {
        int count = 0;
        for (Gate g : gates) {
            count += g.gaveUp.size();
        }
        return count;
    }

    int minutesUntilIn(int goat) {
        if (stateOf(goat) != 1) {
            return -1;
        }
        Model m = copy();
        m.cameIn.clear();
        for (int i = 1; i <= 60; i++) {
            m.step();
            if (m.cameIn.contains(goat)) {
                return i;
            }
        }
        return -1;
    }

    int givingUpIn(int minutes) {
        need(within(minutes, 1, 60), new IllegalArgumentException());
        Model m = copy();
        m.pass(minutes);
        return m.givenUp() - givenUp();
    }

    int givingUpWith(int gate, int more, int order) {
        Model m = copy();
        m.gates.get(gate).permits += more;
        m.gates.get(gate).order = order;
        m.gates.get(gate).gaveUp.clear();
        m.pass(60);
        int count = 0;
        for (int goat : gates.get(gate).line) {
            count += m.gates.get(gate).gaveUp.contains(goat) ? 1 : 0;
        }
        return count;
    }

    int permitsWanted(int gate) {
        int order = gateAt(gate).order;
        for (int more = 0; more <= 9; more++) {
            if (givingUpWith(gate, more, order) == 0) {
                return more;
            }
        }
        return -1;
    }

    int bestOrder(int gate) {
        needGate(gate);
        return givingUpWith(gate, 0, 1) < givingUpWith(gate, 0, 0) ? 1 : 0;
    }

    double meanWaited() {
        double sum = 0;
        for (Goat g : goats) {
            sum += g.waitedEver;
        }
        return goats.isEmpty() ? 0 : sum / goats.size();
    }

    long answer(int kind, int n) {
        switch (kind) {
            case 0: return minute;
            case 1: return inState(1);
            case 2: return inState(2);
            case 3: return starving();
            case 4: return cameIn.size();
            case 5: return givenUp();
            case 6: return givingUpIn(n + 1);
            case 7: return free(gateAt(n));
            case 8: return next(gateAt(n));
            case 9: return permitsWanted(n);
            case 10: return bestOrder(n);
            case 11: return stateOf(n) * 100 + gateOf(n);
            case 12: return holds(n);
            case 13: return seemingHorns(n);
            case 14: return minutesLeft(n);
            case 15: return placeInLine(n);
            default: return minutesUntilIn(n);
        }
    }

    long digest() {
        long d = 2161;
        d = d * 31 + minute;
        d = d * 31 + gates.size();
        d = d * 31 + goats.size();
        for (int kind = 1; kind <= 5; kind++) {
            d = d * 31 + answer(kind, 0);
        }
        for (int i = 0; i < gates.size(); i++) {
            d = d * 31 + gates.get(i).permits;
            d = d * 31 + free(gates.get(i));
            d = d * 31 + gates.get(i).line.size();
            d = d * 31 + next(gates.get(i));
            d = d * 31 + permitsWanted(i);
            d = d * 31 + bestOrder(i);
        }
        for (int i = 0; i < goats.size(); i++) {
            d = d * 31 + stateOf(i);
            d = d * 31 + gateOf(i);
            d = d * 31 + holds(i);
            d = d * 31 + seemingHorns(i);
            d = d * 31 + minutesLeft(i);
            d = d * 31 + goats.get(i).waitedEver;
            d = d * 31 + placeInLine(i);
            d = d * 31 + minutesUntilIn(i);
        }
        return d;
    }
}
