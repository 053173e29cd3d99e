import java.util.NoSuchElementException;

/** Each number that a promise takes: the least and the greatest are taken, one less and one more are refused. */
final class RangeTests {
    private static final Class<IndexOutOfBoundsException> INDEX = IndexOutOfBoundsException.class;
    private static final Class<IllegalArgumentException> ARGUMENT = IllegalArgumentException.class;
    private static final Class<UnsupportedOperationException> UNSUPPORTED = UnsupportedOperationException.class;
    private static final Class<NoSuchElementException> NONE = NoSuchElementException.class;

    interface Taking {
        void take(TimewarpYard yard, int number);
    }

    interface Making {
        TimewarpYard make();
    }

    private RangeTests() {
    }

    static void runAll() {
        speeds();
        machinesOfProcesses();
        delays();
        rules();
        numbersWithoutMeaning();
        works();
        printingKinds();
        horizons();
        saves();
        messages();
        timesUpToTheHorizon();
        timesFromTheLastCommit();
        ticks();
        windows();
        rooms();
        machinesToldOf();
        processesAsked();
        moves();
        faults();
        timesOfStateAt();
        timesOfStateAtFromTheLastCommit();
        indexesOfPrints();
    }

    /** Each number meets a new yard, so that none is refused for what another one did. */
    private static void range(String what, Class<? extends RuntimeException> refusal, int least, int greatest,
            Making making, Taking taking) {
        int[] outside = {least - 1, greatest + 1, Integer.MIN_VALUE, Integer.MAX_VALUE};
        for (int number : outside) {
            TimewarpYard yard = making.make();
            Check.dueThrow(what + " " + number, refusal, () -> taking.take(yard, number));
        }
        for (int number : new int[] {least, greatest}) {
            TimewarpYard yard = making.make();
            Check.dueNoThrow(what + " " + number, () -> taking.take(yard, number));
        }
    }

    /** Three machines, five processes: fewer than the most, so that what is there counts, not what could be. */
    private static TimewarpYard some() {
        TimewarpYard yard = Yards.machines(1, 2, 3);
        for (int i = 0; i < 5; i++) {
            yard.process(i % 3);
        }
        return yard;
    }

    private static void speeds() {
        range("P2 speed", ARGUMENT, 1, 9, TimewarpYard::new, (yard, it) -> yard.machine(it));
    }

    private static void machinesOfProcesses() {
        range("P3 machine", INDEX, 0, 2, RangeTests::some, (yard, it) -> yard.process(it));
    }

    private static void delays() {
        range("P4 from which one", INDEX, 0, 2, RangeTests::some, (yard, it) -> yard.delay(it, 0, 1));
        range("P4 to which one", INDEX, 0, 2, RangeTests::some, (yard, it) -> yard.delay(0, it, 1));
        range("P4 the same", INDEX, 0, 2, RangeTests::some, (yard, it) -> yard.delay(it, it, 1));
        range("P4 ticks", ARGUMENT, 1, 20, RangeTests::some, (yard, it) -> yard.delay(0, 1, it));
    }

    private static void rules() {
        range("P5 process", INDEX, 0, 4, RangeTests::some, (yard, it) -> yard.rule(it, 0, '+', -1, 1, 0));
        range("P5 target, or -1", INDEX, -1, 4, RangeTests::some, (yard, it) -> yard.rule(0, 0, '+', it, 1, 0));
        range("P5 kind", ARGUMENT, 0, 3, RangeTests::some, (yard, it) -> yard.rule(0, it, '+', -1, 1, 0));
        range("P5 kind with a target", ARGUMENT, 0, 3, RangeTests::some, (yard, it) -> yard.rule(0, it, '+', 1, 1, 0));
        range("P5 after", ARGUMENT, 1, 99, RangeTests::some, (yard, it) -> yard.rule(0, 0, '+', 1, it, 0));
        range("P5 next", ARGUMENT, 0, 3, RangeTests::some, (yard, it) -> yard.rule(0, 0, '+', 1, 1, it));
    }

    /** "of no meaning without one": any number is taken, and nothing is sent. */
    private static void numbersWithoutMeaning() {
        for (int number : new int[] {-1, 0, 4, 100, Integer.MIN_VALUE, Integer.MAX_VALUE}) {
            TimewarpYard yard = some();
            Check.dueNoThrow("P5 after without a target " + number, () -> yard.rule(0, 0, '+', -1, number, 0));
            Check.dueNoThrow("P5 next without a target " + number, () -> yard.rule(0, 1, '+', -1, 1, number));
            yard.message(0, 100, 0, 1L);
            yard.message(0, 100, 1, 1L);
            Check.due("P5 without a target, run " + number, yard.tick(2), 2);
            Check.due("P5 without a target, none sent " + number, yard.flying(false), 0);
        }
    }

    private static void works() {
        TimewarpYard yard = some();
        char before = '+';
        for (int sign = 0; sign <= Character.MAX_VALUE; sign++) {
            char work = (char) sign;
            if (sign % 400 == 0) {
                yard = some();
                before = '+';
            }
            TimewarpYard it = yard;
            if ("+-*=?".indexOf(work) >= 0) {
                Check.due("P5 work " + work + " taken, the one before", yard.rule(0, 0, work, -1, 1, 0), before);
                before = work;
            } else {
                Check.dueThrow("P5 work " + sign, ARGUMENT, () -> it.rule(0, 0, work, -1, 1, 0));
            }
        }
    }

    private static void printingKinds() {
        range("P6 process", INDEX, 0, 4, RangeTests::some, (yard, it) -> yard.prints(it, 0, true));
        range("P6 kind", ARGUMENT, 0, 3, RangeTests::some, (yard, it) -> yard.prints(0, it, true));
        range("P6 kind that does not", ARGUMENT, 0, 3, RangeTests::some, (yard, it) -> yard.prints(0, it, false));
    }

    private static void horizons() {
        range("P7 horizon", ARGUMENT, 1, 200, TimewarpYard::new, (yard, it) -> yard.horizon(it));
    }

    private static void saves() {
        range("P8 process", INDEX, 0, 4, RangeTests::some, (yard, it) -> yard.saves(it, 1));
        range("P8 each", ARGUMENT, 1, 20, RangeTests::some, (yard, it) -> yard.saves(0, it));
    }

    private static void messages() {
        range("P9 process", INDEX, 0, 4, RangeTests::some, (yard, it) -> yard.message(it, 0, 0, 0L));
        range("P9 time", ARGUMENT, 0, 200, RangeTests::some, (yard, it) -> yard.message(0, it, 0, 0L));
        range("P9 kind", ARGUMENT, 0, 3, RangeTests::some, (yard, it) -> yard.message(0, 0, it, 0L));
        for (long value : new long[] {Long.MIN_VALUE, -1L, 0L, Long.MAX_VALUE}) {
            TimewarpYard yard = some();
            Check.due("P9 any number " + value, yard.message(0, 0, 0, value), 0);
            yard.tick(1);
            Check.due("P9 any number comes whole " + value, yard.state(0), value);
        }
    }

    private static TimewarpYard with(int horizon) {
        TimewarpYard yard = some();
        yard.horizon(horizon);
        return yard;
    }

    private static void timesUpToTheHorizon() {
        for (int horizon : new int[] {1, 37, 199, 200}) {
            range("P9 time by the horizon " + horizon, ARGUMENT, 0, horizon, () -> with(horizon),
                    (yard, it) -> yard.message(0, it, 0, 0L));
        }
    }

    private static TimewarpYard committedTo(int bound) {
        TimewarpYard yard = some();
        yard.message(0, bound, 0, 1L);
        yard.commit();
        return yard;
    }

    private static void timesFromTheLastCommit() {
        for (int bound : new int[] {1, 50, 200}) {
            Check.dueThrow("P9 time one below the bound " + bound, UNSUPPORTED,
                    () -> committedTo(bound).message(1, bound - 1, 0, 0L));
            Check.dueThrow("P9 time 0 below the bound " + bound, UNSUPPORTED,
                    () -> committedTo(bound).message(1, 0, 0, 0L));
            Check.due("P9 time at the bound " + bound, committedTo(bound).message(1, bound, 0, 0L), 1);
            Check.due("P9 time 200 by the bound " + bound, committedTo(bound).message(1, 200, 0, 0L), 1);
        }
        Check.due("P9 time 0 by the bound 0", committedTo(0).message(1, 0, 0, 0L), 1);
    }

    private static void ticks() {
        range("P10 ticks", ARGUMENT, 1, 100, RangeTests::some, (yard, it) -> yard.tick(it));
        range("P10 ticks of nothing", ARGUMENT, 1, 100, TimewarpYard::new, (yard, it) -> yard.tick(it));
    }

    private static void windows() {
        range("P13 window", ARGUMENT, 0, 200, TimewarpYard::new, (yard, it) -> yard.window(it));
    }

    private static void rooms() {
        range("P14 machine", INDEX, 0, 2, RangeTests::some, (yard, it) -> yard.room(it, 1));
        range("P14 events", ARGUMENT, 1, 999, RangeTests::some, (yard, it) -> yard.room(0, it));
    }

    private static void machinesToldOf() {
        range("P15 machine", INDEX, 0, 2, RangeTests::some, (yard, it) -> yard.cautious(it, true));
        range("P15 machine made bold", INDEX, 0, 2, RangeTests::some, (yard, it) -> yard.cautious(it, false));
        range("P16 machine", INDEX, 0, 2, RangeTests::some, (yard, it) -> yard.lazy(it, true));
        range("P16 machine made not lazy", INDEX, 0, 2, RangeTests::some, (yard, it) -> yard.lazy(it, false));
    }

    private static void processesAsked() {
        range("P17 process", INDEX, 0, 4, RangeTests::some, (yard, it) -> yard.state(it));
        range("P18 process", INDEX, 0, 4, RangeTests::some, (yard, it) -> yard.clock(it));
        range("P19 process", INDEX, 0, 4, RangeTests::some, (yard, it) -> yard.kept(it));
        range("P20 process", INDEX, 0, 4, RangeTests::some, (yard, it) -> yard.waiting(it));
        range("P21 process", INDEX, 0, 4, RangeTests::some, (yard, it) -> yard.strays(it));
        range("P22 process", INDEX, 0, 4, RangeTests::some, (yard, it) -> yard.saved(it));
        range("P23 process", INDEX, 0, 4, RangeTests::some, (yard, it) -> yard.remembered(it));
        range("P25 process", INDEX, 0, 4, RangeTests::some, (yard, it) -> yard.backs(it));
        range("P36 process", INDEX, 0, 4, RangeTests::some, (yard, it) -> yard.stateAt(it, 0));
        range("P37 process", INDEX, 0, 4, RangeTests::some, (yard, it) -> yard.plain(it));
    }

    private static void moves() {
        range("P34 process", INDEX, 0, 4, RangeTests::some, (yard, it) -> yard.move(it, 0));
        range("P34 machine", INDEX, 0, 2, RangeTests::some, (yard, it) -> yard.move(0, it));
    }

    private static void faults() {
        range("P35 machine", INDEX, 0, 2, RangeTests::some, (yard, it) -> yard.fault(it));
    }

    private static void timesOfStateAt() {
        range("P36 time", ARGUMENT, 0, 999, RangeTests::some, (yard, it) -> yard.stateAt(0, it));
    }

    private static void timesOfStateAtFromTheLastCommit() {
        for (int bound : new int[] {1, 50, 200}) {
            TimewarpYard yard = committedTo(bound);
            Check.dueThrow("P36 time one below the bound " + bound, NONE, () -> yard.stateAt(0, bound - 1));
            Check.dueThrow("P36 time 0 below the bound " + bound, NONE, () -> yard.stateAt(0, 0));
            Check.due("P36 time at the bound " + bound, yard.stateAt(0, bound), 0);
            Check.due("P36 time 999 by the bound " + bound, yard.stateAt(0, 999), 0);
        }
    }

    private static TimewarpYard printedThree() {
        TimewarpYard yard = some();
        yard.prints(0, 0, true);
        for (int time = 10; time <= 30; time += 10) {
            yard.message(0, time, 0, 1L);
        }
        yard.tick(3);
        yard.commit();
        return yard;
    }

    private static void indexesOfPrints() {
        range("P32 index", NONE, 0, 2, RangeTests::printedThree, (yard, it) -> yard.print(it));
        range("P33 index", NONE, 0, 2, RangeTests::printedThree, (yard, it) -> yard.printTime(it));
        TimewarpYard yard = printedThree();
        Check.due("P31 as many as indexes", yard.printed(), 3);
        Check.due("P32 at the first", yard.print(0), 1);
        Check.due("P32 at the last", yard.print(2), 3);
        Check.due("P33 at the first", yard.printTime(0), 10);
        Check.due("P33 at the last", yard.printTime(2), 30);
    }
}
