/** A tower with gates for mountain goats. */
public final class GoatTower {
    private static final int MAX_GATES = 4;
    private static final int MAX_GOATS = 12;
    private static final int MAX_PERMITS = 9;
    private static final int MAX_HORNS = 9;
    private static final int MAX_STAY = 30;
    private static final int MAX_WAIT = 60;
    private static final int MAX_PASS = 60;
    private static final int MAX_MORE_PERMITS = 9;
    private static final int MINUTES_FOR_A_HORN = 3;
    private static final int MINUTES_TO_STARVE = 8;

    private static final int FIRST_COME = 0;
    private static final int BY_HORNS = 1;

    private static final int IDLE = 0;
    private static final int WAITS = 1;
    private static final int INSIDE = 2;

    private static final int NOBODY = -1;
    private static final int NOWHERE = -1;
    private static final int NEVER = -1;
    private static final int NOT_ENOUGH = -1;
    private static final int NOT_IN_LINE = -1;

    private final Scene now = new Scene();
    private final Scene ahead = new Scene();

    public GoatTower() {
    }

    // ---- what there is

    public int addGate(int permits, int order) throws IllegalArgumentException, IllegalStateException {
        checkNumber(permits, MAX_PERMITS);
        if (order != FIRST_COME && order != BY_HORNS) {
            throw new IllegalArgumentException("no such order");
        }
        if (now.gateCount >= MAX_GATES) {
            throw new IllegalStateException("no room for a gate");
        }
        return now.openGate(permits, order);
    }

    public int addGoat(int horns) throws IllegalArgumentException, IllegalStateException {
        checkNumber(horns, MAX_HORNS);
        if (now.goatCount >= MAX_GOATS) {
            throw new IllegalStateException("no room for a goat");
        }
        return now.bringGoat(horns);
    }

    public int ask(int goat, int gate, int many, int stay, int waits)
            throws IndexOutOfBoundsException, IllegalArgumentException, IllegalStateException {
        checkGoat(goat);
        checkGate(gate);
        checkNumber(many, now.permits[gate]);
        checkNumber(stay, MAX_STAY);
        checkNumber(waits, MAX_WAIT);
        checkIdle(goat);
        now.lineUp(goat, gate, many, stay, waits);
        return now.countWaitingAt(gate);
    }

    public int barge(int goat, int gate, int many, int stay)
            throws IndexOutOfBoundsException, IllegalArgumentException, IllegalStateException {
        checkGoat(goat);
        checkGate(gate);
        checkNumber(many, now.permits[gate]);
        checkNumber(stay, MAX_STAY);
        checkIdle(goat);
        if (now.freePermits(gate) < many) {
            throw new IllegalStateException("fewer permits are free");
        }
        now.enter(goat, gate, many, stay);
        return now.freePermits(gate);
    }

    public int callBack(int goat) throws IndexOutOfBoundsException, IllegalStateException {
        checkGoat(goat);
        if (now.state[goat] == IDLE) {
            throw new IllegalStateException("the goat is idle");
        }
        int givenBack = now.held(goat);
        now.rest(goat);
        return givenBack;
    }

    public int pass(int minutes) throws IllegalArgumentException {
        checkNumber(minutes, MAX_PASS);
        int before = now.letInCount;
        for (int i = 0; i < minutes; i++) {
            now.liveAMinute();
        }
        return now.letInCount - before;
    }

    // ---- the tower

    public int minute() {
        return now.minute;
    }

    public int gates() {
        return now.gateCount;
    }

    public int goats() {
        return now.goatCount;
    }

    public int waiting() {
        return now.countInState(WAITS);
    }

    public int inside() {
        return now.countInState(INSIDE);
    }

    public int starving() {
        return now.countStarving();
    }

    public int letIn() {
        return now.letInCount;
    }

    public int givenUp() {
        return now.givenUpInAll();
    }

    // ---- gates

    public int permitsOf(int gate) throws IndexOutOfBoundsException {
        checkGate(gate);
        return now.permits[gate];
    }

    public int freeOf(int gate) throws IndexOutOfBoundsException {
        checkGate(gate);
        return now.freePermits(gate);
    }

    public int waitingAt(int gate) throws IndexOutOfBoundsException {
        checkGate(gate);
        return now.countWaitingAt(gate);
    }

    public int nextAt(int gate) throws IndexOutOfBoundsException {
        checkGate(gate);
        return now.firstIn(gate);
    }

    // ---- goats

    public int stateOf(int goat) throws IndexOutOfBoundsException {
        checkGoat(goat);
        return now.state[goat];
    }

    public int gateOf(int goat) throws IndexOutOfBoundsException {
        checkGoat(goat);
        return now.gate[goat];
    }

    public int holds(int goat) throws IndexOutOfBoundsException {
        checkGoat(goat);
        return now.held(goat);
    }

    public int seemingHorns(int goat) throws IndexOutOfBoundsException {
        checkGoat(goat);
        return now.seeming(goat);
    }

    public int minutesLeft(int goat) throws IndexOutOfBoundsException {
        checkGoat(goat);
        return now.left[goat];
    }

    public int waitedOf(int goat) throws IndexOutOfBoundsException {
        checkGoat(goat);
        return now.waitedInAll[goat];
    }

    public int placeInLine(int goat) throws IndexOutOfBoundsException {
        checkGoat(goat);
        return now.state[goat] == WAITS ? now.countAheadOf(goat) : NOT_IN_LINE;
    }

    // ---- what would be

    public int minutesUntilIn(int goat) throws IndexOutOfBoundsException {
        checkGoat(goat);
        ahead.become(now);
        int minutes = 0;
        while (minutes < MAX_WAIT && ahead.state[goat] == WAITS) {
            ahead.liveAMinute();
            minutes++;
        }
        return minutes > 0 && ahead.state[goat] == INSIDE ? minutes : NEVER;
    }

    public int givingUpIn(int minutes) throws IllegalArgumentException {
        checkNumber(minutes, MAX_PASS);
        ahead.become(now);
        for (int i = 0; i < minutes; i++) {
            ahead.liveAMinute();
        }
        return ahead.givenUpInAll() - now.givenUpInAll();
    }

    public int permitsWanted(int gate) throws IndexOutOfBoundsException {
        checkGate(gate);
        for (int more = 0; more <= MAX_MORE_PERMITS; more++) {
            if (givingUpWith(gate, now.permits[gate] + more, now.order[gate]) == 0) {
                return more;
            }
        }
        return NOT_ENOUGH;
    }

    public int bestOrder(int gate) throws IndexOutOfBoundsException {
        checkGate(gate);
        int firstCome = givingUpWith(gate, now.permits[gate], FIRST_COME);
        int byHorns = givingUpWith(gate, now.permits[gate], BY_HORNS);
        return byHorns < firstCome ? BY_HORNS : FIRST_COME;
    }

    public double meanWaited() {
        if (now.goatCount == 0) {
            return 0;
        }
        return (double) now.sumOfWaited() / now.goatCount;
    }

    public long digest() {
        long d = 2161;
        d = d * 31 + minute();
        d = d * 31 + gates();
        d = d * 31 + goats();
        d = d * 31 + waiting();
        d = d * 31 + inside();
        d = d * 31 + starving();
        d = d * 31 + letIn();
        d = d * 31 + givenUp();
        for (int gate = 0; gate < now.gateCount; gate++) {
            d = d * 31 + permitsOf(gate);
            d = d * 31 + freeOf(gate);
            d = d * 31 + waitingAt(gate);
            d = d * 31 + nextAt(gate);
            d = d * 31 + permitsWanted(gate);
            d = d * 31 + bestOrder(gate);
        }
        for (int goat = 0; goat < now.goatCount; goat++) {
            d = d * 31 + stateOf(goat);
            d = d * 31 + gateOf(goat);
            d = d * 31 + holds(goat);
            d = d * 31 + seemingHorns(goat);
            d = d * 31 + minutesLeft(goat);
            d = d * 31 + waitedOf(goat);
            d = d * 31 + placeInLine(goat);
            d = d * 31 + minutesUntilIn(goat);
        }
        return d;
    }

    /** How many of those who wait at a gate now would give up, if it had these permits and this order. */
    private int givingUpWith(int gate, int permits, int order) {
        ahead.become(now);
        ahead.permits[gate] = permits;
        ahead.order[gate] = order;
        // Nobody else asks meanwhile, so whoever gives up at this gate waits there now.
        for (int i = 0; i < MAX_WAIT && ahead.countWaitingAt(gate) > 0; i++) {
            ahead.liveAMinute();
        }
        return ahead.givenUpAt[gate] - now.givenUpAt[gate];
    }

    private void checkGate(int gate) {
        if (gate < 0 || gate >= now.gateCount) {
            throw new IndexOutOfBoundsException("no such gate");
        }
    }

    private void checkGoat(int goat) {
        if (goat < 0 || goat >= now.goatCount) {
            throw new IndexOutOfBoundsException("no such goat");
        }
    }

    private void checkIdle(int goat) {
        if (now.state[goat] != IDLE) {
            throw new IllegalStateException("the goat is not idle");
        }
    }

    private static void checkNumber(int number, int most) {
        if (number < 1 || number > most) {
            throw new IllegalArgumentException("the number is too small or too great");
        }
    }

    /** All that there is in one minute. A second one, reused, looks ahead, so that the first stays as it is. */
    private static final class Scene {
        int minute;
        int gateCount;
        int goatCount;
        int askCount;
        int letInCount;

        final int[] permits = new int[MAX_GATES];
        final int[] order = new int[MAX_GATES];
        final int[] givenUpAt = new int[MAX_GATES];

        final int[] horns = new int[MAX_GOATS];
        final int[] state = new int[MAX_GOATS];
        final int[] gate = new int[MAX_GOATS];
        final int[] many = new int[MAX_GOATS];
        final int[] stay = new int[MAX_GOATS];
        final int[] left = new int[MAX_GOATS];
        final int[] askedAs = new int[MAX_GOATS];
        final int[] waitedForThis = new int[MAX_GOATS];
        final int[] waitedInAll = new int[MAX_GOATS];

        void become(Scene other) {
            minute = other.minute;
            gateCount = other.gateCount;
            goatCount = other.goatCount;
            askCount = other.askCount;
            letInCount = other.letInCount;
            for (int i = 0; i < MAX_GATES; i++) {
                permits[i] = other.permits[i];
                order[i] = other.order[i];
                givenUpAt[i] = other.givenUpAt[i];
            }
            for (int i = 0; i < MAX_GOATS; i++) {
                horns[i] = other.horns[i];
                state[i] = other.state[i];
                gate[i] = other.gate[i];
                many[i] = other.many[i];
                stay[i] = other.stay[i];
                left[i] = other.left[i];
                askedAs[i] = other.askedAs[i];
                waitedForThis[i] = other.waitedForThis[i];
                waitedInAll[i] = other.waitedInAll[i];
            }
        }

        int openGate(int withPermits, int withOrder) {
            int number = gateCount;
            permits[number] = withPermits;
            order[number] = withOrder;
            gateCount++;
            return number;
        }

        int bringGoat(int withHorns) {
            int number = goatCount;
            horns[number] = withHorns;
            rest(number);
            goatCount++;
            return number;
        }

        void rest(int goat) {
            state[goat] = IDLE;
            gate[goat] = NOWHERE;
            left[goat] = 0;
            waitedForThis[goat] = 0;
        }

        void lineUp(int goat, int atGate, int wanted, int minutesInside, int minutesToWait) {
            state[goat] = WAITS;
            gate[goat] = atGate;
            many[goat] = wanted;
            stay[goat] = minutesInside;
            left[goat] = minutesToWait;
            askedAs[goat] = askCount;
            askCount++;
        }

        void enter(int goat, int throughGate, int taken, int minutesInside) {
            state[goat] = INSIDE;
            gate[goat] = throughGate;
            many[goat] = taken;
            left[goat] = minutesInside;
            waitedForThis[goat] = 0;
        }

        void liveAMinute() {
            leaveThoseWhoStayed();
            for (int i = 0; i < gateCount; i++) {
                letInThrough(i);
            }
            for (int i = 0; i < gateCount; i++) {
                waitOnAt(i);
            }
            minute++;
        }

        void leaveThoseWhoStayed() {
            for (int i = 0; i < goatCount; i++) {
                if (state[i] == INSIDE) {
                    left[i]--;
                    if (left[i] <= 0) {
                        rest(i);
                    }
                }
            }
        }

        void letInThrough(int atGate) {
            for (int i = 0; i < goatCount; i++) {
                int goat = firstIn(atGate);
                if (goat < 0) {
                    return;
                }
                enter(goat, atGate, many[goat], stay[goat]);
                letInCount++;
            }
        }

        void waitOnAt(int atGate) {
            for (int i = 0; i < goatCount; i++) {
                if (waitsAt(i, atGate)) {
                    waitedForThis[i]++;
                    waitedInAll[i]++;
                    left[i]--;
                    if (left[i] <= 0) {
                        rest(i);
                        givenUpAt[atGate]++;
                    }
                }
            }
        }

        int firstIn(int atGate) {
            int free = freePermits(atGate);
            boolean byHorns = order[atGate] == BY_HORNS;
            int first = NOBODY;
            int longest = 0;
            for (int i = 0; i < goatCount; i++) {
                // By horns, one who wants too much is passed over; first come, it keeps the others waiting.
                boolean counts = waitsAt(i, atGate) && (!byHorns || many[i] <= free);
                int length = byHorns ? seeming(i) : 0;
                boolean earlier = first < 0 || askedAs[i] < askedAs[first];
                if (counts && (length > longest || length == longest && earlier)) {
                    first = i;
                    longest = length;
                }
            }
            return first >= 0 && many[first] <= free ? first : NOBODY;
        }

        int freePermits(int atGate) {
            int free = permits[atGate];
            for (int i = 0; i < goatCount; i++) {
                if (state[i] == INSIDE && gate[i] == atGate) {
                    free -= many[i];
                }
            }
            return free;
        }

        boolean waitsAt(int goat, int atGate) {
            return state[goat] == WAITS && gate[goat] == atGate;
        }

        int held(int goat) {
            return state[goat] == INSIDE ? many[goat] : 0;
        }

        int seeming(int goat) {
            return horns[goat] + waitedForThis[goat] / MINUTES_FOR_A_HORN;
        }

        int countAheadOf(int goat) {
            int count = 0;
            for (int i = 0; i < goatCount; i++) {
                if (waitsAt(i, gate[goat]) && askedAs[i] < askedAs[goat]) {
                    count++;
                }
            }
            return count;
        }

        int countWaitingAt(int atGate) {
            int count = 0;
            for (int i = 0; i < goatCount; i++) {
                if (waitsAt(i, atGate)) {
                    count++;
                }
            }
            return count;
        }

        int countInState(int wanted) {
            int count = 0;
            for (int i = 0; i < goatCount; i++) {
                if (state[i] == wanted) {
                    count++;
                }
            }
            return count;
        }

        int countStarving() {
            int count = 0;
            for (int i = 0; i < goatCount; i++) {
                if (state[i] == WAITS && waitedForThis[i] >= MINUTES_TO_STARVE) {
                    count++;
                }
            }
            return count;
        }

        int givenUpInAll() {
            int sum = 0;
            for (int i = 0; i < gateCount; i++) {
                sum += givenUpAt[i];
            }
            return sum;
        }

        int sumOfWaited() {
            int sum = 0;
            for (int i = 0; i < goatCount; i++) {
                sum += waitedInAll[i];
            }
            return sum;
        }
    }
}
