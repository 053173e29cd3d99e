import java.util.NoSuchElementException;

/** "If several exceptions apply, the exception listed first is thrown.": each two that one call can meet at once. */
final class FirstThrowTests {
    private static final Class<IndexOutOfBoundsException> INDEX = IndexOutOfBoundsException.class;
    private static final Class<IllegalArgumentException> ARGUMENT = IllegalArgumentException.class;
    private static final Class<IllegalStateException> STATE = IllegalStateException.class;
    private static final Class<UnsupportedOperationException> UNSUPPORTED = UnsupportedOperationException.class;
    private static final Class<NoSuchElementException> NONE = NoSuchElementException.class;

    private FirstThrowTests() {
    }

    static void runAll() {
        machine();
        process();
        delay();
        ruleIndexes();
        ruleNumbers();
        prints();
        horizon();
        saves();
        messageIndexes();
        messageNumbers();
        messageBelowAndFull();
        room();
        stateAt();
    }

    private static TimewarpYard told() {
        TimewarpYard yard = Yards.apart(2, 1);
        yard.message(0, 10, 0, 1L);
        return yard;
    }

    private static void machine() {
        TimewarpYard full = Yards.machines(1, 1, 1, 1);
        Check.dueThrow("P2 no speed, though there are 4", ARGUMENT, () -> full.machine(0));
        Check.dueThrow("P2 too great a speed, though there are 4", ARGUMENT, () -> full.machine(10));
        Check.dueThrow("P2 there are 4", STATE, () -> full.machine(9));
    }

    private static void process() {
        TimewarpYard full = Yards.machines(1);
        for (int i = 0; i < 8; i++) {
            full.process(0);
        }
        Check.dueThrow("P3 no machine, though there are 8", INDEX, () -> full.process(1));
        Check.dueThrow("P3 there are 8", STATE, () -> full.process(0));
        full.message(0, 10, 0, 1L);
        Check.dueThrow("P3 told, though there are 8", UNSUPPORTED, () -> full.process(0));
        Check.dueThrow("P3 no machine, though told and there are 8", INDEX, () -> full.process(1));
        Check.dueThrow("P3 no machine, though told", INDEX, () -> told().process(2));
        Check.dueThrow("P3 told", UNSUPPORTED, () -> told().process(0));
    }

    private static void delay() {
        TimewarpYard yard = Yards.machines(1, 1);
        for (int ticks : new int[] {0, 21}) {
            Check.dueThrow("P4 from none, though ticks " + ticks, INDEX, () -> yard.delay(2, 0, ticks));
            Check.dueThrow("P4 to none, though ticks " + ticks, INDEX, () -> yard.delay(0, 2, ticks));
            Check.dueThrow("P4 from and to none, though ticks " + ticks, INDEX, () -> yard.delay(-1, -1, ticks));
        }
    }

    private static void ruleIndexes() {
        TimewarpYard yard = Yards.apart(2, 1);
        Check.dueThrow("P5 no process, though no work", INDEX, () -> yard.rule(2, 0, '/', -1, 1, 0));
        Check.dueThrow("P5 no process, though no kind", INDEX, () -> yard.rule(2, 4, '+', -1, 1, 0));
        Check.dueThrow("P5 no process, though no after", INDEX, () -> yard.rule(2, 0, '+', 0, 0, 0));
        Check.dueThrow("P5 no process, though no next", INDEX, () -> yard.rule(2, 0, '+', 0, 1, 4));
        Check.dueThrow("P5 no target, though no work", INDEX, () -> yard.rule(0, 0, '/', 2, 1, 0));
        Check.dueThrow("P5 no target, though no kind", INDEX, () -> yard.rule(0, 4, '+', 2, 1, 0));
        Check.dueThrow("P5 no target, though no after", INDEX, () -> yard.rule(0, 0, '+', 2, 100, 0));
        Check.dueThrow("P5 no target, though no next", INDEX, () -> yard.rule(0, 0, '+', -2, 1, -1));
        Check.dueThrow("P5 no process, though told", INDEX, () -> told().rule(2, 0, '+', -1, 1, 0));
        Check.dueThrow("P5 no target, though told", INDEX, () -> told().rule(0, 0, '+', 2, 1, 0));
        Check.dueThrow("P5 no process, though all else", INDEX, () -> told().rule(-1, 4, '/', -2, 0, 4));
    }

    private static void ruleNumbers() {
        Check.dueThrow("P5 no work, though told", ARGUMENT, () -> told().rule(0, 0, '/', -1, 1, 0));
        Check.dueThrow("P5 no kind, though told", ARGUMENT, () -> told().rule(0, 4, '+', -1, 1, 0));
        Check.dueThrow("P5 no after, though told", ARGUMENT, () -> told().rule(0, 0, '+', 1, 0, 0));
        Check.dueThrow("P5 no next, though told", ARGUMENT, () -> told().rule(0, 0, '+', 1, 1, 4));
        Check.dueThrow("P5 told", UNSUPPORTED, () -> told().rule(0, 0, '+', 1, 1, 0));
        Check.dueThrow("P5 told, numbers of no meaning", UNSUPPORTED, () -> told().rule(0, 0, '+', -1, 0, 9));
    }

    private static void prints() {
        TimewarpYard yard = Yards.apart(2, 1);
        Check.dueThrow("P6 no process, though no kind", INDEX, () -> yard.prints(2, 4, true));
        Check.dueThrow("P6 no process, though told", INDEX, () -> told().prints(2, 0, true));
        Check.dueThrow("P6 no process, though all else", INDEX, () -> told().prints(-1, -1, true));
        Check.dueThrow("P6 no kind, though told", ARGUMENT, () -> told().prints(0, 4, true));
        Check.dueThrow("P6 told", UNSUPPORTED, () -> told().prints(0, 3, true));
        Check.dueThrow("P6 told, though it is so", UNSUPPORTED, () -> told().prints(0, 3, false));
    }

    private static void horizon() {
        Check.dueThrow("P7 no horizon, though told", ARGUMENT, () -> told().horizon(0));
        Check.dueThrow("P7 too great a horizon, though told", ARGUMENT, () -> told().horizon(201));
        Check.dueThrow("P7 told", UNSUPPORTED, () -> told().horizon(1));
        Check.dueThrow("P7 told, though it is so", UNSUPPORTED, () -> told().horizon(200));
    }

    private static void saves() {
        TimewarpYard yard = Yards.apart(2, 1);
        Check.dueThrow("P8 no process, though too few", INDEX, () -> yard.saves(2, 0));
        Check.dueThrow("P8 no process, though too many", INDEX, () -> yard.saves(-1, 21));
    }

    /** A yard that committed up to 50, with so many told. */
    private static TimewarpYard full(int told) {
        TimewarpYard yard = Yards.apart(2, 1);
        for (int i = 0; i < told; i++) {
            yard.message(0, 50, 0, 1L);
        }
        yard.commit();
        return yard;
    }

    private static void messageIndexes() {
        Check.dueThrow("P9 no process, though no time", INDEX, () -> full(1).message(2, 201, 0, 1L));
        Check.dueThrow("P9 no process, though no kind", INDEX, () -> full(1).message(2, 60, 4, 1L));
        Check.dueThrow("P9 no process, though below the bound", INDEX, () -> full(1).message(2, 49, 0, 1L));
        Check.dueThrow("P9 no process, though 40 were told", INDEX, () -> full(40).message(2, 60, 0, 1L));
        Check.dueThrow("P9 no process, though all else", INDEX, () -> full(40).message(-1, -1, -1, 1L));
    }

    private static void messageNumbers() {
        Check.dueThrow("P9 no time, which is below the bound", ARGUMENT, () -> full(1).message(0, -1, 0, 1L));
        Check.dueThrow("P9 no kind, though below the bound", ARGUMENT, () -> full(1).message(0, 49, 4, 1L));
        Check.dueThrow("P9 no time, though 40 were told", ARGUMENT, () -> full(40).message(0, 201, 0, 1L));
        Check.dueThrow("P9 no kind, though 40 were told", ARGUMENT, () -> full(40).message(0, 60, -1, 1L));
        Check.dueThrow("P9 no kind, though both", ARGUMENT, () -> full(40).message(0, 49, 4, 1L));
    }

    private static void messageBelowAndFull() {
        Check.dueThrow("P9 below the bound, though 40 were told", UNSUPPORTED, () -> full(40).message(0, 49, 0, 1L));
        Check.dueThrow("P9 40 were told, and it is at the bound", STATE, () -> full(40).message(0, 50, 0, 1L));
        Check.due("P9 39 were told, and it is at the bound", full(39).message(0, 50, 0, 1L), 39);
    }

    private static void room() {
        TimewarpYard yard = Yards.machines(1, 1);
        Check.dueThrow("P14 no machine, though no room", INDEX, () -> yard.room(2, 0));
        Check.dueThrow("P14 no machine, though too much room", INDEX, () -> yard.room(-1, 1000));
    }

    private static void stateAt() {
        Check.dueThrow("P36 no process, though no time", INDEX, () -> full(1).stateAt(2, 1000));
        Check.dueThrow("P36 no process, though below the bound", INDEX, () -> full(1).stateAt(2, 49));
        Check.dueThrow("P36 no process, though both", INDEX, () -> full(1).stateAt(2, -1));
        Check.dueThrow("P36 no time, which is below the bound", ARGUMENT, () -> full(1).stateAt(0, -1));
        Check.dueThrow("P36 below the bound", NONE, () -> full(1).stateAt(0, 49));
    }
}
