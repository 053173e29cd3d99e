import java.util.NoSuchElementException;

/** Nothing there yet: no machine, no process, nothing told, run, kept, committed or printed. */
final class EmptyTests {
    private static final Class<IndexOutOfBoundsException> INDEX = IndexOutOfBoundsException.class;
    private static final Class<NoSuchElementException> NONE = NoSuchElementException.class;
    private static final Class<ArithmeticException> ARITHMETIC = ArithmeticException.class;

    private EmptyTests() {
    }

    static void runAll() {
        noMachine();
        noProcess();
        firstValuesOfMachines();
        firstValuesOfProcesses();
        firstRules();
        nothingTold();
        ticksOfNothing();
        nothingRun();
        nothingKept();
        nothingCommitted();
        nothingPrinted();
        nothingLeft();
        committedAgain();
    }

    private static void noMachine() {
        TimewarpYard yard = new TimewarpYard();
        Check.dueThrow("P3 no machine yet", INDEX, () -> yard.process(0));
        Check.dueThrow("P4 no machine yet", INDEX, () -> yard.delay(0, 0, 1));
        Check.dueThrow("P14 no machine yet", INDEX, () -> yard.room(0, 1));
        Check.dueThrow("P15 no machine yet", INDEX, () -> yard.cautious(0, true));
        Check.dueThrow("P16 no machine yet", INDEX, () -> yard.lazy(0, true));
        Check.dueThrow("P35 no machine yet", INDEX, () -> yard.fault(0));
        yard.machine(1);
        Check.dueThrow("P3 one machine, not the second", INDEX, () -> yard.process(1));
        Check.dueThrow("P4 one machine, none to go to", INDEX, () -> yard.delay(0, 1, 1));
        Check.dueThrow("P4 one machine, none to come from", INDEX, () -> yard.delay(1, 0, 1));
        Check.due("P35 one machine without processes", yard.fault(0), 0);
        Check.due("P3 one machine, on that", yard.process(0), 0);
    }

    private static void noProcess() {
        TimewarpYard yard = Yards.machines(1);
        Check.dueThrow("P5 no process yet", INDEX, () -> yard.rule(0, 0, '+', -1, 1, 0));
        Check.dueThrow("P6 no process yet", INDEX, () -> yard.prints(0, 0, true));
        Check.dueThrow("P8 no process yet", INDEX, () -> yard.saves(0, 1));
        Check.dueThrow("P9 no process yet", INDEX, () -> yard.message(0, 0, 0, 0L));
        Check.dueThrow("P17 no process yet", INDEX, () -> yard.state(0));
        Check.dueThrow("P18 no process yet", INDEX, () -> yard.clock(0));
        Check.dueThrow("P19 no process yet", INDEX, () -> yard.kept(0));
        Check.dueThrow("P20 no process yet", INDEX, () -> yard.waiting(0));
        Check.dueThrow("P21 no process yet", INDEX, () -> yard.strays(0));
        Check.dueThrow("P22 no process yet", INDEX, () -> yard.saved(0));
        Check.dueThrow("P23 no process yet", INDEX, () -> yard.remembered(0));
        Check.dueThrow("P25 no process yet", INDEX, () -> yard.backs(0));
        Check.dueThrow("P34 no process yet", INDEX, () -> yard.move(0, 0));
        Check.dueThrow("P36 no process yet", INDEX, () -> yard.stateAt(0, 0));
        Check.dueThrow("P37 no process yet", INDEX, () -> yard.plain(0));
        Check.dueThrow("P40 no process yet", ARITHMETIC, () -> yard.meanKept());
        Check.due("P41 no process yet", yard.checksum(), 31 * (31 * 7));
        Check.due("P42 no process yet", yard.isTrue(), true);
        Check.due("P38 no process yet", yard.isOver(), true);
        Check.due("P10 no process yet", yard.tick(100), 0);
        Check.due("P30 no process yet", yard.commit(), 0);
        yard.process(0);
        Check.dueThrow("P5 one process, no second to send to", INDEX, () -> yard.rule(0, 0, '+', 1, 1, 0));
        Check.due("P5 one process, to itself", yard.rule(0, 0, '+', 0, 1, 0), '+');
        Check.due("P40 one process", yard.meanKept(), 0.0);
    }

    /** "bold at first, not lazy, and with room for [..] 999 at first", "1 to 20 ticks, 1 at first". */
    private static void firstValuesOfMachines() {
        TimewarpYard yard = Yards.machines(1, 2, 3, 9);
        for (int i = 0; i < 4; i++) {
            Check.due("terms: bold at first " + i, yard.cautious(i, false), false);
            Check.due("terms: not lazy at first " + i, yard.lazy(i, false), false);
            Check.due("terms: room at first " + i, yard.room(i, 1), 999);
            for (int k = 0; k < 4; k++) {
                Check.due("terms: ticks at first " + i + " " + k, yard.delay(i, k, 20), 1);
            }
        }
        Check.due("terms: window at first", yard.window(0), 200);
        Check.due("terms: horizon at first", yard.horizon(1), 200);
    }

    private static void firstValuesOfProcesses() {
        TimewarpYard yard = Yards.machines(1, 1, 1, 1);
        for (int i = 0; i < 8; i++) {
            yard.process(i % 4);
            Check.due("terms: state at first " + i, yard.state(i), 0);
            Check.due("terms: saves at first " + i, yard.saves(i, 20), 1);
            Check.due("P18 clock at first " + i, yard.clock(i), -1);
            Check.due("P19 kept at first " + i, yard.kept(i), 0);
            Check.due("P20 waiting at first " + i, yard.waiting(i), 0);
            Check.due("P21 strays at first " + i, yard.strays(i), 0);
            Check.due("P22 saved at first, that ahead of all " + i, yard.saved(i), 1);
            Check.due("P23 remembered at first " + i, yard.remembered(i), 0);
            Check.due("P25 backs at first " + i, yard.backs(i), 0);
            Check.due("P36 state at 0 " + i, yard.stateAt(i, 0), 0);
            Check.due("P36 state at 999 " + i, yard.stateAt(i, 999), 0);
            Check.due("P37 plain at first " + i, yard.plain(i), 0);
            Check.due("P34 machine at first " + i, yard.move(i, 0), i % 4);
        }
    }

    /** "'+' at first", "none at first", and no kind prints, for each kind of each process. */
    private static void firstRules() {
        for (int kind = 0; kind < 4; kind++) {
            TimewarpYard yard = Yards.apart(1, 9);
            yard.message(0, 10, kind, 5L);
            yard.message(0, 20, kind, 3L);
            yard.tick(1);
            Check.due("terms: + at first " + kind, yard.state(0), 8);
            Check.due("terms: sends none at first " + kind, yard.flying(false), 0);
            yard.commit();
            Check.due("terms: prints none at first " + kind, yard.printed(), 0);
        }
        TimewarpYard yard = Yards.apart(4, 1);
        for (int i = 0; i < 16; i++) {
            Check.due("P5 work at first " + i, yard.rule(i / 4, i % 4, '*', -1, 1, 0), '+');
            Check.due("P6 prints at first " + i, yard.prints(i / 4, i % 4, true), false);
        }
    }

    private static void nothingTold() {
        TimewarpYard yard = Yards.apart(2, 9);
        Check.due("P12 nothing told", yard.bound(), -1);
        Check.due("P24 nothing told", yard.flying(false), 0);
        Check.due("P24 nothing told, back", yard.flying(true), 0);
        Check.due("P38 nothing told", yard.isOver(), true);
        Check.due("P37 nothing told", yard.plain(1), 0);
        Check.due("P10 nothing told", yard.tick(1), 0);
        Check.due("P35 nothing told", yard.fault(0), 0);
        Check.due("P25 no back by that", yard.backs(0), 0);
        Check.due("P30 nothing told", yard.commit(), 0);
        Check.due("P42 nothing told", yard.isTrue(), true);
        Check.due("P9 the first", yard.message(0, 0, 0, 1L), 0);
    }

    private static void ticksOfNothing() {
        TimewarpYard yard = new TimewarpYard();
        Check.due("P11 none passed", yard.now(), 0);
        yard.tick(1);
        Check.due("P11 one passed", yard.now(), 1);
        yard.tick(100);
        Check.due("P11 a hundred and one", yard.now(), 101);
    }

    private static void nothingRun() {
        TimewarpYard yard = Yards.alone(1, 10);
        Check.due("P26 none run, one under way", yard.done(), 0);
        Check.due("P27 none run", yard.undone(), 0);
        Check.due("P28 none run", yard.silent(), 0);
        Check.due("P29 none run", yard.antis(), 0);
        Check.dueThrow("P39 none run, one under way", ARITHMETIC, () -> yard.wasteShare());
        yard.tick(1);
        Check.due("P39 one run", yard.wasteShare(), 0.0);
        yard.fault(0);
        Check.due("P39 all in vain", yard.wasteShare(), 1.0);
        Check.due("P26 as many as were run", yard.done(), 1);
    }

    private static void nothingKept() {
        TimewarpYard yard = Yards.apart(2, 9);
        yard.message(0, 10, 0, 1L);
        Check.due("P35 under way, nothing kept", yard.fault(0), 0);
        Check.due("P24 still under way", yard.flying(false), 1);
        Check.due("P40 nothing kept", yard.meanKept(), 0.0);
        yard.tick(1);
        yard.commit();
        Check.due("P35 committed, nothing kept", yard.fault(0), 0);
        Check.due("P25 no back", yard.backs(0), 0);
        Check.due("P17 state of what was committed", yard.state(0), 1);
    }

    /** "0 at first", "0 without one": nothing is below that. */
    private static void nothingCommitted() {
        TimewarpYard yard = Yards.apart(1, 9);
        Check.due("P36 no commit yet", yard.stateAt(0, 0), 0);
        Check.due("P9 no commit yet", yard.message(0, 0, 0, 1L), 0);
        TimewarpYard other = Yards.apart(1, 9);
        Check.due("P30 of nothing", other.commit(), 0);
        Check.due("P30 again", other.commit(), 0);
        Check.due("P36 the bound 0", other.stateAt(0, 0), 0);
        Check.due("P9 the bound 0", other.message(0, 0, 0, 1L), 0);
        Check.due("P30 one of the time 0 under way", other.commit(), 0);
        Check.due("P9 the bound 0 still", other.message(0, 0, 0, 1L), 1);
        Check.due("P18 none committed", other.clock(0), -1);
    }

    private static void nothingPrinted() {
        TimewarpYard yard = Yards.apart(1, 9);
        yard.prints(0, 0, true);
        yard.message(0, 10, 0, 1L);
        yard.tick(1);
        Check.due("P31 run, not committed", yard.printed(), 0);
        Check.dueThrow("P32 run, not committed", NONE, () -> yard.print(0));
        Check.dueThrow("P33 run, not committed", NONE, () -> yard.printTime(0));
        yard.message(0, 20, 1, 1L);
        yard.tick(1);
        yard.commit();
        Check.due("P31 one printed, the other kind not", yard.printed(), 1);
        Check.dueThrow("P32 no second", NONE, () -> yard.print(1));
        Check.dueThrow("P33 no second", NONE, () -> yard.printTime(1));
    }

    /** "-1 if nothing waits or is under way": that what is kept does not count. */
    private static void nothingLeft() {
        TimewarpYard yard = Yards.alone(9, 0);
        Check.due("P12 the time 0, under way", yard.bound(), 0);
        Check.due("P38 under way", yard.isOver(), false);
        yard.tick(1);
        Check.due("P12 kept alone", yard.bound(), -1);
        Check.due("P38 kept alone", yard.isOver(), true);
        yard.fault(0);
        Check.due("P12 the time 0, waiting", yard.bound(), 0);
        Check.due("P38 waiting", yard.isOver(), false);
        yard.tick(1);
        Check.due("P30 all, as nothing is left", yard.commit(), 1);
        Check.due("P12 nothing at all", yard.bound(), -1);
    }

    /** A commit of nothing new goes by the greatest time of all that were ever committed. */
    private static void committedAgain() {
        TimewarpYard yard = Yards.alone(9, 30);
        yard.tick(1);
        Check.due("P30 the first", yard.commit(), 1);
        Check.due("P30 none new", yard.commit(), 0);
        Check.dueThrow("P9 the bound is 31 still", UnsupportedOperationException.class,
                () -> yard.message(0, 30, 0, 1L));
        Check.dueThrow("P36 the bound is 31 still", NONE, () -> yard.stateAt(0, 30));
        Check.due("P9 at 31", yard.message(0, 31, 0, 1L), 1);
    }
}
