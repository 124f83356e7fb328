import java.math.BigInteger;

/** The boundary cases of the promises 27 to 32. */
public final class BoundsOfWhatWouldBeTest extends Bounds {
    private BoundsOfWhatWouldBeTest() {
    }

    public static void main(String[] args) {
        new BoundsOfWhatWouldBeTest().runAll(27, 32);
    }

    // ---- promise 27

    void promise27_onlyGoatsThatThereAre() {
        onlyThose(0, GoatTower::new, GoatTower::minutesUntilIn);
        onlyThose(0, () -> tower(1, 0), GoatTower::minutesUntilIn);
        onlyThose(1, () -> tower(1, 0, 1), GoatTower::minutesUntilIn);
        onlyThose(6, Bounds::busy, GoatTower::minutesUntilIn);
        onlyThose(12, Bounds::crowded, GoatTower::minutesUntilIn);
    }

    void promise27_minus1IfItDoesNotWait() {
        foresees("idle", -1, Bounds::busy, x -> x.minutesUntilIn(5));
        foresees("barged in", -1, Bounds::busy, x -> x.minutesUntilIn(0));
        foresees("let in", -1, Bounds::busy, x -> x.minutesUntilIn(2));
        foresees("without gates", -1, () -> {
            GoatTower x = new GoatTower();
            x.addGoat(1);
            return x;
        }, x -> x.minutesUntilIn(0));
    }

    void promise27_1IfInThisOne() {
        foresees("of free permits", 1, () -> asked(tower(1, 0, 1), 0, 1, 1), x -> x.minutesUntilIn(0));
        foresees("of those that come free in it", 1, () -> behind(1, 1), x -> x.minutesUntilIn(1));
        foresees("of those that come free in the next", 2, () -> behind(2, 2), x -> x.minutesUntilIn(1));
    }

    void promise27_inTheLastMinuteOfItsWaitOrNever() {
        foresees("the stay ends with the wait", 7, () -> behind(7, 7), x -> x.minutesUntilIn(1));
        foresees("the stay ends a minute later", -1, () -> behind(8, 7), x -> x.minutesUntilIn(1));
    }

    void promise27_atMost60() {
        foresees("the sixtieth minute", 60, () -> behindTwo(29, 60), x -> x.minutesUntilIn(2));
        foresees("it waits 59 alone", -1, () -> behindTwo(29, 59), x -> x.minutesUntilIn(2));
        foresees("the sixty-first minute", -1, () -> behindTwo(30, 60), x -> x.minutesUntilIn(2));
        foresees("the fifty-ninth minute", 59, () -> behindTwo(28, 59), x -> x.minutesUntilIn(2));
    }

    void promise27_comesTrueJustThen() {
        GoatTower x = behindTwo(29, 60);
        x.pass(59);
        due("it waits", 1, x.stateOf(2));
        due("1 by now", 1, x.minutesUntilIn(2));
        x.pass(1);
        due("it is inside", 2, x.stateOf(2));
    }

    void promise27_allOfAFullTowerComeTrue() {
        GoatTower asked = crowded();
        for (int goat = 0; goat < 12; goat++) {
            due("goat " + goat, minutesLivedUntilIn(crowded(), goat), asked.minutesUntilIn(goat));
        }
    }

    private static int minutesLivedUntilIn(GoatTower x, int goat) {
        int minutes = 0;
        while (x.stateOf(goat) == 1) {
            x.pass(1);
            minutes++;
        }
        return minutes > 0 && x.stateOf(goat) == 2 ? minutes : -1;
    }

    void promise27_twoAtOnceAreInInTheSameMinute() {
        Recipe two = () -> {
            GoatTower x = tower(2, 0, 1, 1, 1);
            x.barge(0, 0, 2, 4);
            x.ask(1, 0, 1, 1, 9);
            x.ask(2, 0, 1, 1, 9);
            return x;
        };
        foresees("the first", 4, two, x -> x.minutesUntilIn(1));
        foresees("the second", 4, two, x -> x.minutesUntilIn(2));
    }

    void promise27_ofSeveralTheOneWhoAskedFirstNotTheLowerNumber() {
        for (int order = 0; order <= 1; order++) {
            Recipe history = askedBackwards(order, 5, 5, 1, 2);
            foresees("who asked first", 1, history, x -> x.minutesUntilIn(1));
            foresees("the other", 2, history, x -> x.minutesUntilIn(0));
        }
    }

    void promise27_theMinutesThatItWaitedMakeItsHornsLonger() {
        foresees("who waited", 2, BoundsOfWhatWouldBeTest::overtaken, x -> x.minutesUntilIn(1));
        foresees("the other", -1, BoundsOfWhatWouldBeTest::overtaken, x -> x.minutesUntilIn(2));
    }

    // ---- promise 28

    void promise28_minutes1And60AreTaken0And61AreRefused() {
        refused("0", ARGUMENT, Bounds::busy, x -> x.givingUpIn(0));
        refused("61", ARGUMENT, Bounds::busy, x -> x.givingUpIn(61));
        for (int minutes : new int[] {-1, LEAST, GREATEST}) {
            refused("minutes " + minutes, ARGUMENT, Bounds::busy, x -> x.givingUpIn(minutes));
            refused("minutes " + minutes + " of an empty tower", ARGUMENT, GoatTower::new, x -> x.givingUpIn(minutes));
        }
        foresees("1", 0, Bounds::busy, x -> x.givingUpIn(1));
        foresees("60", 0, Bounds::busy, x -> x.givingUpIn(60));
    }

    void promise28_0WithoutGatesOrGoats() {
        foresees("empty", 0, GoatTower::new, x -> x.givingUpIn(60));
        foresees("all idle", 0, Bounds::full, x -> x.givingUpIn(60));
    }

    void promise28_inTheMinuteInWhichItGivesUpNotOneAhead() {
        for (int waits : new int[] {2, 7, 60}) {
            Recipe history = () -> behindTwo(30, waits);
            foresees("one less than " + waits, 0, history, x -> x.givingUpIn(waits - 1));
            foresees("as many as " + waits, 1, history, x -> x.givingUpIn(waits));
        }
        foresees("in this one", 1, () -> behindTwo(30, 1), x -> x.givingUpIn(1));
    }

    void promise28_whoIsLetInInItsLastMinuteDoesNotGiveUp() {
        foresees("the stay ends with the wait", 0, () -> behind(7, 7), x -> x.givingUpIn(60));
        foresees("the stay ends a minute later", 1, () -> behind(8, 7), x -> x.givingUpIn(60));
    }

    void promise28_onlyThoseYetToCome() {
        GoatTower x = behindTwo(30, 3);
        x.pass(3);
        due("one gave up", 1, x.givenUp());
        due("no more", 0, x.givingUpIn(60));
    }

    void promise28_elevenAtOnceAndAtAllGates() {
        Recipe eleven = () -> {
            GoatTower x = full();
            x.barge(0, 0, 1, 30);
            for (int i = 1; i < 12; i++) {
                x.ask(i, 0, 1, 1, 10);
            }
            return x;
        };
        foresees("in 9", 0, eleven, x -> x.givingUpIn(9));
        foresees("in 10", 11, eleven, x -> x.givingUpIn(10));
        Recipe atEach = () -> {
            GoatTower x = full();
            for (int i = 0; i < 4; i++) {
                x.barge(i, i, x.permitsOf(i), 30);
                x.ask(4 + i, i, 1, 1, 1 + i);
            }
            return x;
        };
        for (int minutes = 1; minutes <= 4; minutes++) {
            int m = minutes;
            foresees("at each gate, in " + m, m, atEach, x -> x.givingUpIn(m));
        }
    }

    void promise28_goesByWhoAskedFirstAndByWhatTheyWaited() {
        foresees("who asked first can't wait", 0, askedBackwards(0, 5, 5, 1, 2), x -> x.givingUpIn(60));
        foresees("who asked last can't wait", 1, askedBackwards(0, 5, 5, 2, 1), x -> x.givingUpIn(60));
        foresees("one is overtaken", 1, BoundsOfWhatWouldBeTest::overtaken, x -> x.givingUpIn(60));
    }

    // ---- promise 29

    void promise29_onlyGatesThatThereAre() {
        onlyGates(GoatTower::permitsWanted);
    }

    void promise29_0IfNobodyWaitsThere() {
        foresees("without goats", 0, () -> tower(1, 0), x -> x.permitsWanted(0));
        foresees("all idle", 0, Bounds::full, x -> x.permitsWanted(3));
        foresees("all are held", 0, () -> {
            GoatTower x = tower(1, 0, 1);
            x.barge(0, 0, 1, 30);
            return x;
        }, x -> x.permitsWanted(0));
    }

    void promise29_0IfTheLastMinuteOfTheWaitDoes1IfNot() {
        foresees("the stay ends with the wait", 0, () -> behind(7, 7), x -> x.permitsWanted(0));
        foresees("the stay ends a minute later", 1, () -> behind(8, 7), x -> x.permitsWanted(0));
        foresees("in the sixtieth minute", 0, () -> behindTwo(29, 60), x -> x.permitsWanted(0));
        foresees("in the sixty-first", 1, () -> behindTwo(30, 60), x -> x.permitsWanted(0));
    }

    void promise29_from1To9Of9AndMinus1IfNineDoNotDo() {
        for (int many = 1; many <= 9; many++) {
            int wants = many;
            foresees("as many as it wants, " + wants, wants, () -> crush(wants, 0), x -> x.permitsWanted(0));
        }
        foresees("5 and 4 of nine", 9, () -> crush(5, 4), x -> x.permitsWanted(0));
        foresees("5 and 5 of nine", -1, () -> crush(5, 5), x -> x.permitsWanted(0));
        foresees("9 and 1 of nine", -1, () -> crush(9, 1), x -> x.permitsWanted(0));
    }

    void promise29_withMoreThan9InAllOrNot() {
        foresees("9 more than 9", 9, () -> crush(9, 0), x -> x.permitsWanted(0));
        Recipe one = () -> {
            GoatTower x = tower(1, 0, 1);
            for (int i = 0; i < 10; i++) {
                x.addGoat(1);
            }
            x.barge(0, 0, 1, 30);
            for (int i = 1; i <= 9; i++) {
                x.ask(i, 0, 1, 30, 1);
            }
            return x;
        };
        foresees("9 more than 1", 9, one, x -> x.permitsWanted(0));
        foresees("10 more than 1", -1, () -> {
            GoatTower x = one.make();
            x.ask(10, 0, 1, 30, 1);
            return x;
        }, x -> x.permitsWanted(0));
    }

    void promise29_fromNowOnThisMinuteToo() {
        foresees("one who waits 1 minute", 1, () -> behind(2, 1), x -> x.permitsWanted(0));
    }

    void promise29_onlyWhoWaitsThereNow() {
        Recipe history = () -> {
            GoatTower x = behind(30, 3);
            x.addGate(1, 0);
            x.addGoat(1);
            x.barge(2, 1, 1, 2);
            return x;
        };
        foresees("the other gate", 0, history, x -> x.permitsWanted(1));
        foresees("this gate", 1, history, x -> x.permitsWanted(0));
        foresees("who gave up is not counted", 0, () -> {
            GoatTower x = history.make();
            x.pass(3);
            return x;
        }, x -> x.permitsWanted(0));
    }

    void promise29_byTheOrderOfTheGate() {
        foresees("first come", 0, () -> hurry(0), x -> x.permitsWanted(0));
        foresees("horns", 1, () -> hurry(1), x -> x.permitsWanted(0));
    }

    /** With 2 or 3 more the one that wants few goes ahead; with 4 the other one does, and stays too long. */
    void promise29_theLeastThatDoesThoughAGreaterOneDoesNot() {
        Recipe history = () -> {
            GoatTower x = tower(4, 1, 5, 9, 9);
            x.barge(0, 0, 4, 9);
            x.ask(1, 0, 4, 21, 10);
            x.ask(2, 0, 2, 12, 2);
            return x;
        };
        foresees("two", 2, history, x -> x.permitsWanted(0));
    }

    /** The document's words clash here; '-1 if 9 do not do' is read as: if none up to 9 does. */
    void promise29_theLeastThatDoesThoughNineDoNot() {
        Recipe history = () -> {
            GoatTower x = tower(4, 1, 7, 1, 8, 8);
            x.ask(0, 0, 4, 29, 21);
            x.ask(1, 0, 3, 17, 1);
            x.ask(2, 0, 4, 7, 13);
            x.ask(3, 0, 3, 23, 25);
            return x;
        };
        foresees("six", 6, history, x -> x.permitsWanted(0));
    }

    void promise29_goesByWhoAskedFirstAndByWhatTheyWaited() {
        foresees("who asked first can't wait", 0, askedBackwards(0, 5, 5, 1, 2), x -> x.permitsWanted(0));
        foresees("who asked last can't wait", 1, askedBackwards(0, 5, 5, 2, 1), x -> x.permitsWanted(0));
        foresees("one is overtaken", 1, BoundsOfWhatWouldBeTest::overtaken, x -> x.permitsWanted(0));
    }

    // ---- promise 30

    void promise30_onlyGatesThatThereAre() {
        onlyGates(GoatTower::bestOrder);
    }

    void promise30_0IfAsManyGiveUpWithBoth() {
        for (int order = 0; order <= 1; order++) {
            int own = order;
            foresees("nobody waits, order " + own, 0, () -> tower(1, own, 1), x -> x.bestOrder(0));
            foresees("none gives up, order " + own, 0, () -> asked(tower(1, own, 1), 0, 1, 1), x -> x.bestOrder(0));
            foresees("one gives up, order " + own, 0, () -> {
                GoatTower x = tower(1, own, 1, 9);
                x.ask(0, 0, 1, 1, 1);
                x.ask(1, 0, 1, 1, 1);
                return x;
            }, x -> x.bestOrder(0));
        }
    }

    void promise30_theOrderWithOneLess() {
        for (int order = 0; order <= 1; order++) {
            int own = order;
            foresees("first come, of order " + own, 0, () -> hurry(own), x -> x.bestOrder(0));
            foresees("horns, of order " + own, 1, () -> patience(own), x -> x.bestOrder(0));
        }
    }

    void promise30_onlyWhoWaitsThereNow() {
        Recipe both = () -> {
            GoatTower x = patience(0);
            x.addGate(1, 0);
            x.addGoat(9);
            x.addGoat(1);
            x.ask(3, 1, 1, 1, 1);
            x.ask(2, 1, 1, 1, 2);
            return x;
        };
        foresees("gate 0", 1, both, x -> x.bestOrder(0));
        foresees("gate 1", 0, both, x -> x.bestOrder(1));
    }

    void promise30_theSixtiethMinuteCounts() {
        Recipe history = () -> {
            GoatTower x = tower(1, 0, 1, 9, 1, 9);
            x.barge(0, 0, 1, 30);
            x.ask(1, 0, 1, 30, 60);
            x.ask(2, 0, 1, 1, 60);
            x.ask(3, 0, 1, 1, 60);
            return x;
        };
        foresees("by both one gives up in it", 0, history, x -> x.bestOrder(0));
        Recipe longer = () -> {
            GoatTower x = tower(1, 0, 1, 9, 1, 9);
            x.barge(0, 0, 1, 30);
            x.ask(2, 0, 1, 30, 60);
            x.ask(1, 0, 1, 29, 60);
            x.ask(3, 0, 1, 1, 60);
            return x;
        };
        foresees("by horns the one that stays 30 comes last, in the sixtieth; by first come one gives up in it", 1, longer, x -> x.bestOrder(0));
    }

    void promise30_goesByWhoAskedFirstAndByWhatTheyWaited() {
        foresees("who asked last has long horns and can't wait", 1, askedBackwards(0, 1, 9, 2, 1), x -> x.bestOrder(0));
        foresees("who asked first has short horns and can't wait", 0, askedBackwards(1, 1, 9, 1, 2), x -> x.bestOrder(0));
        foresees("one is overtaken by both", 0, BoundsOfWhatWouldBeTest::overtaken, x -> x.bestOrder(0));
    }

    // ---- promise 31

    void promise31_0WithoutGoats() {
        dueD("empty", 0.0, new GoatTower().meanWaited());
        GoatTower x = tower(9, 0);
        x.pass(60);
        dueD("a gate alone", 0.0, x.meanWaited());
    }

    void promise31_0IfNoneWaited() {
        GoatTower x = full();
        x.barge(0, 3, 1, 1);
        x.ask(1, 3, 1, 1, 1);
        x.pass(60);
        dueD("twelve", 0.0, x.meanWaited());
    }

    void promise31_isNotCut() {
        GoatTower x = full();
        x.barge(0, 0, 1, 30);
        x.ask(11, 0, 1, 1, 60);
        x.pass(1);
        dueD("1 of twelve", 1.0 / 12.0, x.meanWaited());
        x.pass(10);
        dueD("11 of twelve", 11.0 / 12.0, x.meanWaited());
        x.pass(1);
        dueD("12 of twelve", 1.0, x.meanWaited());
        x.pass(1);
        dueD("13 of twelve", 13.0 / 12.0, x.meanWaited());
    }

    void promise31_oneGoatAlone() {
        GoatTower x = behind(30, 20);
        x.pass(20);
        dueD("20 of two", 10.0, x.meanWaited());
        GoatTower y = tower(1, 0, 1);
        dueD("0 of one", 0.0, y.meanWaited());
    }

    void promise31_theFirstAndTheLastGoatOfAFullTower() {
        GoatTower x = full();
        x.barge(5, 0, 1, 30);
        x.ask(0, 0, 1, 1, 60);
        x.pass(1);
        dueD("goat 0", 1.0 / 12.0, x.meanWaited());
        x.ask(11, 0, 1, 1, 60);
        x.pass(3);
        dueD("goat 11 too", 7.0 / 12.0, x.meanWaited());
    }

    // ---- promise 32

    void promise32_ofAnEmptyTower() {
        due("eight times 0", 2161L * 31 * 31 * 31 * 31 * 31 * 31 * 31 * 31, new GoatTower().digest());
    }

    void promise32_withoutGatesOrWithoutGoats() {
        GoatTower goats = new GoatTower();
        addGoats(goats, 12);
        due("goats alone", wrapped(goats), goats.digest());
        due("a gate alone", wrapped(tower(9, 1)), tower(9, 1).digest());
    }

    void promise32_wrapsAround() {
        BigInteger whole = whole(crowded());
        isTrue("the whole number is beyond 64 bits", whole.bitLength() > 64);
        due("of a full tower", whole.longValue(), crowded().digest());
        boolean negative = false;
        GoatTower x = busy();
        for (int i = 0; i < 5; i++) {
            x.pass(1);
            due("minute " + i, wrapped(x), x.digest());
            negative |= x.digest() < 0;
        }
        isTrue("some of them fall below 0", negative);
    }

    void promise32_ofMinus1AndOfNumbersThatAreNot0() {
        GoatTower x = patience(0);
        x.addGate(9, 1);
        addGoats(x, 3);
        x.barge(2, 1, 9, 30);
        x.ask(3, 1, 9, 1, 1);
        x.ask(4, 1, 1, 1, 1);
        due("permits wanted", 1, x.permitsWanted(0));
        due("best order", 1, x.bestOrder(0));
        due("nine do not do", -1, x.permitsWanted(1));
        due("nobody is next", -1, x.nextAt(1));
        due("digest", wrapped(x), x.digest());
    }

    void promise32_changesNothing() {
        foresees("of many", busy().digest(), Bounds::busy, GoatTower::digest);
        foresees("of a full tower", crowded().digest(), Bounds::crowded, GoatTower::digest);
        foresees("of an empty one", new GoatTower().digest(), GoatTower::new, GoatTower::digest);
    }

    private static long wrapped(GoatTower x) {
        return whole(x).longValue();
    }

    private static BigInteger whole(GoatTower x) {
        BigInteger d = BigInteger.valueOf(2161);
        d = mixed(d, x.minute(), x.gates(), x.goats(), x.waiting(), x.inside(), x.starving(), x.letIn(), x.givenUp());
        for (int g = 0; g < x.gates(); g++) {
            d = mixed(d, x.permitsOf(g), x.freeOf(g), x.waitingAt(g), x.nextAt(g), x.permitsWanted(g), x.bestOrder(g));
        }
        for (int g = 0; g < x.goats(); g++) {
            d = mixed(d, x.stateOf(g), x.gateOf(g), x.holds(g), x.seemingHorns(g),
                x.minutesLeft(g), x.waitedOf(g), x.placeInLine(g), x.minutesUntilIn(g));
        }
        return d;
    }

    private static BigInteger mixed(BigInteger start, long... numbers) {
        BigInteger d = start;
        for (long number : numbers) {
            d = d.multiply(BigInteger.valueOf(31)).add(BigInteger.valueOf(number));
        }
        return d;
    }

    // ---- what these tests have in common

    private void onlyGates(OnNumber call) {
        onlyThose(0, GoatTower::new, call);
        onlyThose(1, () -> tower(1, 0, 1, 1), call);
        onlyThose(2, Bounds::busy, call);
        onlyThose(4, Bounds::crowded, call);
    }

    private static GoatTower asked(GoatTower x, int goat, int stay, int waits) {
        x.ask(goat, 0, 1, stay, waits);
        return x;
    }

    /** Goat 0 holds the only permit for so long, and goat 1 waits for it. */
    private static GoatTower behind(int stay, int waits) {
        GoatTower x = tower(1, 0, 1, 1);
        x.barge(0, 0, 1, stay);
        return asked(x, 1, 1, waits);
    }

    /** Goat 0 is let in in the minute 1 and stays 30, goat 1 after it, for so long, and goat 2 waits for that. */
    private static GoatTower behindTwo(int stay, int waits) {
        GoatTower x = tower(1, 0, 1, 1, 1);
        asked(x, 0, 30, 60);
        asked(x, 1, stay, 60);
        return asked(x, 2, 1, waits);
    }

    /** Goat 1 asks ahead of goat 0 for the only permit, which is free. */
    private static Recipe askedBackwards(int order, int hornsOfFirst, int hornsOfLast, int firstWaits, int lastWaits) {
        return () -> {
            GoatTower x = tower(1, order, hornsOfLast, hornsOfFirst);
            asked(x, 1, 1, firstWaits);
            return asked(x, 0, 1, lastWaits);
        };
    }

    /** In 2 minutes a permit is free; by then goat 1 of 5 horns will have waited 7, and seem as long as goat 2 of 7. */
    private static GoatTower overtaken() {
        GoatTower x = tower(1, 1, 1, 5, 7);
        x.barge(0, 0, 1, 8);
        asked(x, 1, 1, 20);
        x.pass(6);
        return asked(x, 2, 1, 2);
    }

    /** All nine permits are held for long, and one or two want this many in this minute. */
    private static GoatTower crush(int first, int second) {
        GoatTower x = tower(9, 0, 1, 1, 1);
        x.barge(0, 0, 9, 30);
        x.ask(1, 0, first, 30, 1);
        if (second > 0) {
            x.ask(2, 0, second, 30, 1);
        }
        return x;
    }

    /** The first one, with short horns, can't wait; by horns it gives up. */
    private static GoatTower hurry(int order) {
        GoatTower x = tower(1, order, 1, 9);
        x.ask(0, 0, 1, 1, 1);
        x.ask(1, 0, 1, 1, 2);
        return x;
    }

    /** The second one, with long horns, can't wait; by first come it gives up. */
    private static GoatTower patience(int order) {
        GoatTower x = tower(1, order, 1, 9);
        x.ask(0, 0, 1, 1, 2);
        x.ask(1, 0, 1, 1, 1);
        return x;
    }
}
