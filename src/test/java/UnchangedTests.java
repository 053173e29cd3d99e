import java.util.NoSuchElementException;

/** "A method that throws an exception changes nothing.": beside a yard without the refused call, all stays alike. */
final class UnchangedTests {
    private static final Class<IndexOutOfBoundsException> INDEX = IndexOutOfBoundsException.class;
    private static final Class<IllegalArgumentException> ARGUMENT = IllegalArgumentException.class;
    private static final Class<IllegalStateException> STATE = IllegalStateException.class;
    private static final Class<UnsupportedOperationException> UNSUPPORTED = UnsupportedOperationException.class;
    private static final Class<NoSuchElementException> NONE = NoSuchElementException.class;
    private static final Class<ArithmeticException> ARITHMETIC = ArithmeticException.class;

    /** How far a yard has come as the refused call meets it. */
    enum Stage {
        NEW(0, 0), READY(2, 3), MIDST(2, 3), TOLD_ALL(2, 3), FULL(4, 8);

        final int machines;
        final int processes;

        Stage(int machines, int processes) {
            this.machines = machines;
            this.processes = processes;
        }
    }

    interface Refused {
        void call(TimewarpYard yard);
    }

    private UnchangedTests() {
    }

    static void runAll() {
        midstHasAll();
        asNothingIsThere();
        asNothingIsTold();
        rulesAsNothingIsTold();
        asAllIsFull();
        tellingInTheMidst();
        toldTooLate();
        messagesInTheMidst();
        askingInTheMidst();
        asAllIsTold();
    }

    private static TimewarpYard made(Stage stage) {
        TimewarpYard yard = new TimewarpYard();
        if (stage == Stage.FULL) {
            for (int i = 0; i < 4; i++) {
                yard.machine(2 + i);
            }
            for (int i = 0; i < 8; i++) {
                yard.process(i % 4);
            }
        } else if (stage != Stage.NEW) {
            makeReady(yard);
        }
        if (stage == Stage.MIDST || stage == Stage.TOLD_ALL) {
            goToTheMidst(yard);
        }
        if (stage == Stage.TOLD_ALL) {
            for (int i = 8; i < 40; i++) {
                yard.message(i % 3, 60 + i, i % 2, i);
            }
        }
        return yard;
    }

    private static void makeReady(TimewarpYard yard) {
        yard.machine(9);
        yard.machine(2);
        yard.process(0);
        yard.process(1);
        yard.process(1);
        yard.horizon(150);
        yard.rule(0, 0, '+', 1, 10, 0);
        yard.rule(1, 0, '*', 2, 10, 1);
        yard.rule(2, 1, '?', -1, 0, 0);
        yard.prints(0, 1, true);
        yard.saves(0, 3);
        yard.window(150);
        yard.room(1, 50);
    }

    private static void goToTheMidst(TimewarpYard yard) {
        yard.message(0, 5, 1, 3L);
        yard.tick(1);
        yard.commit();
        yard.lazy(1, true);
        yard.message(0, 20, 0, 5L);
        yard.tick(3);
        yard.delay(0, 1, 9);
        yard.message(0, 40, 0, 5L);
        yard.tick(1);
        yard.delay(0, 1, 1);
        yard.message(0, 15, 1, 2L);
        yard.tick(2);
        yard.delay(0, 1, 2);
        for (int time = 25; time < 28; time++) {
            yard.message(1, time, 1, 2L);
        }
        yard.message(0, 35, 1, 1L);
        yard.tick(1);
    }

    /** What is compared is worth it: there is something of all that a call could change. */
    private static void midstHasAll() {
        TimewarpYard yard = made(Stage.MIDST);
        Check.due("midst: kept", yard.kept(0), 4);
        Check.due("midst: waits", yard.waiting(1), 3);
        Check.due("midst: stays", yard.strays(1), 1);
        Check.due("midst: remembered", yard.remembered(1), 2);
        Check.due("midst: under way", yard.flying(false), 2);
        Check.due("midst: takes back", yard.flying(true), 1);
        Check.due("midst: printed", yard.printed(), 1);
        Check.due("midst: silent", yard.silent(), 2);
        Check.due("midst: backs", yard.backs(0), 2);
    }

    /** What a yard does next shows what it holds and none of its answers tells. */
    private static void goOn(TimewarpYard yard, Stage stage) {
        if (stage == Stage.NEW) {
            Check.due("goes on: the first machine", yard.machine(2), 0);
            Check.due("goes on: the first process", yard.process(0), 0);
            yard.rule(0, 0, '*', 0, 10, 0);
        }
        if (stage == Stage.READY) {
            Check.due("goes on: the third machine", yard.machine(2), 2);
            Check.due("goes on: the fourth process", yard.process(2), 3);
        }
        if (stage != Stage.TOLD_ALL) {
            int last = stage == Stage.NEW ? 0 : 2;
            int told = yard.message(0, 100, 0, 7L);
            Check.due("goes on: the next message", yard.message(last, 90, 1, 9L), told + 1);
        }
        yard.tick(2);
        yard.fault(0);
        yard.tick(100);
        yard.commit();
    }

    private static void refused(Stage stage, String name, Class<? extends RuntimeException> want, Refused refused) {
        TimewarpYard yard = made(stage);
        TimewarpYard beside = made(stage);
        Check.dueThrow("unchanged: " + stage + " " + name, want, () -> refused.call(yard));
        String whole = Whole.of(beside, stage.machines, stage.processes);
        Check.due("unchanged: " + stage + " " + name, Whole.of(yard, stage.machines, stage.processes), whole);
        goOn(yard, stage);
        goOn(beside, stage);
        int machines = stage == Stage.NEW ? 1 : stage.machines;
        int processes = stage == Stage.NEW ? 1 : stage.processes;
        whole = Whole.of(beside, machines, processes);
        Check.due("unchanged then: " + stage + " " + name, Whole.of(yard, machines, processes), whole);
    }

    private static void asNothingIsThere() {
        refused(Stage.NEW, "machine", ARGUMENT, yard -> yard.machine(0));
        refused(Stage.NEW, "process", INDEX, yard -> yard.process(0));
        refused(Stage.NEW, "delay", INDEX, yard -> yard.delay(0, 0, 2));
        refused(Stage.NEW, "rule", INDEX, yard -> yard.rule(0, 0, '-', -1, 1, 0));
        refused(Stage.NEW, "prints", INDEX, yard -> yard.prints(0, 0, true));
        refused(Stage.NEW, "horizon", ARGUMENT, yard -> yard.horizon(0));
        refused(Stage.NEW, "saves", INDEX, yard -> yard.saves(0, 2));
        refused(Stage.NEW, "message", INDEX, yard -> yard.message(0, 10, 0, 1L));
        refused(Stage.NEW, "tick", ARGUMENT, yard -> yard.tick(101));
        refused(Stage.NEW, "window", ARGUMENT, yard -> yard.window(201));
        refused(Stage.NEW, "room", INDEX, yard -> yard.room(0, 1));
        refused(Stage.NEW, "cautious", INDEX, yard -> yard.cautious(0, true));
        refused(Stage.NEW, "lazy", INDEX, yard -> yard.lazy(0, true));
        refused(Stage.NEW, "fault", INDEX, yard -> yard.fault(0));
        refused(Stage.NEW, "move", INDEX, yard -> yard.move(0, 0));
        refused(Stage.NEW, "print", NONE, yard -> yard.print(0));
        refused(Stage.NEW, "meanKept", ARITHMETIC, yard -> yard.meanKept());
        refused(Stage.NEW, "wasteShare", ARITHMETIC, yard -> yard.wasteShare());
    }

    private static void asNothingIsTold() {
        refused(Stage.READY, "machine", ARGUMENT, yard -> yard.machine(10));
        refused(Stage.READY, "process", INDEX, yard -> yard.process(2));
        refused(Stage.READY, "prints of no process", INDEX, yard -> yard.prints(3, 0, true));
        refused(Stage.READY, "prints of no kind", ARGUMENT, yard -> yard.prints(0, 4, true));
        refused(Stage.READY, "horizon", ARGUMENT, yard -> yard.horizon(201));
        refused(Stage.READY, "message for no process", INDEX, yard -> yard.message(3, 10, 0, 1L));
        refused(Stage.READY, "message for no time", ARGUMENT, yard -> yard.message(0, 151, 0, 1L));
        refused(Stage.READY, "wasteShare", ARITHMETIC, yard -> yard.wasteShare());
    }

    /** The rule as it was told sends and adds: each part of it would show. */
    private static void rulesAsNothingIsTold() {
        refused(Stage.READY, "rule of no process", INDEX, yard -> yard.rule(3, 0, '-', 2, 20, 1));
        refused(Stage.READY, "rule for no target", INDEX, yard -> yard.rule(0, 0, '-', 3, 20, 1));
        refused(Stage.READY, "rule of no kind", ARGUMENT, yard -> yard.rule(0, 4, '-', 2, 20, 1));
        refused(Stage.READY, "rule of no work", ARGUMENT, yard -> yard.rule(0, 0, '/', 2, 20, 1));
        refused(Stage.READY, "rule with no after", ARGUMENT, yard -> yard.rule(0, 0, '-', 2, 100, 1));
        refused(Stage.READY, "rule with no next", ARGUMENT, yard -> yard.rule(0, 0, '-', 2, 20, 4));
    }

    private static void asAllIsFull() {
        refused(Stage.FULL, "the fifth machine", STATE, yard -> yard.machine(5));
        refused(Stage.FULL, "the fifth machine of no speed", ARGUMENT, yard -> yard.machine(0));
        refused(Stage.FULL, "the ninth process", STATE, yard -> yard.process(0));
        refused(Stage.FULL, "the ninth process on no machine", INDEX, yard -> yard.process(4));
    }

    private static void tellingInTheMidst() {
        refused(Stage.MIDST, "machine", ARGUMENT, yard -> yard.machine(0));
        refused(Stage.MIDST, "delay from none", INDEX, yard -> yard.delay(2, 0, 5));
        refused(Stage.MIDST, "delay to none", INDEX, yard -> yard.delay(0, 2, 5));
        refused(Stage.MIDST, "delay of no ticks", ARGUMENT, yard -> yard.delay(0, 1, 0));
        refused(Stage.MIDST, "delay of too many", ARGUMENT, yard -> yard.delay(0, 1, 21));
        refused(Stage.MIDST, "saves of no process", INDEX, yard -> yard.saves(3, 5));
        refused(Stage.MIDST, "saves of no number", ARGUMENT, yard -> yard.saves(0, 0));
        refused(Stage.MIDST, "tick of none", ARGUMENT, yard -> yard.tick(0));
        refused(Stage.MIDST, "tick of too many", ARGUMENT, yard -> yard.tick(101));
        refused(Stage.MIDST, "window", ARGUMENT, yard -> yard.window(-1));
        refused(Stage.MIDST, "room of no machine", INDEX, yard -> yard.room(2, 5));
        refused(Stage.MIDST, "room of no events", ARGUMENT, yard -> yard.room(0, 0));
        refused(Stage.MIDST, "room of too many", ARGUMENT, yard -> yard.room(0, 1000));
        refused(Stage.MIDST, "cautious", INDEX, yard -> yard.cautious(2, true));
        refused(Stage.MIDST, "lazy", INDEX, yard -> yard.lazy(2, true));
        refused(Stage.MIDST, "move of no process", INDEX, yard -> yard.move(3, 1));
        refused(Stage.MIDST, "move to no machine", INDEX, yard -> yard.move(0, 2));
        refused(Stage.MIDST, "fault", INDEX, yard -> yard.fault(2));
    }

    private static void toldTooLate() {
        refused(Stage.MIDST, "process", UNSUPPORTED, yard -> yard.process(0));
        refused(Stage.MIDST, "rule", UNSUPPORTED, yard -> yard.rule(0, 0, '-', 2, 20, 1));
        refused(Stage.MIDST, "prints", UNSUPPORTED, yard -> yard.prints(0, 0, true));
        refused(Stage.MIDST, "horizon", UNSUPPORTED, yard -> yard.horizon(100));
    }

    private static void messagesInTheMidst() {
        refused(Stage.MIDST, "message for no process", INDEX, yard -> yard.message(3, 50, 0, 1L));
        refused(Stage.MIDST, "message for no time", ARGUMENT, yard -> yard.message(0, 151, 0, 1L));
        refused(Stage.MIDST, "message of no kind", ARGUMENT, yard -> yard.message(0, 50, 4, 1L));
        refused(Stage.MIDST, "message below the bound", UNSUPPORTED, yard -> yard.message(0, 5, 0, 1L));
    }

    private static void askingInTheMidst() {
        refused(Stage.MIDST, "state", INDEX, yard -> yard.state(3));
        refused(Stage.MIDST, "clock", INDEX, yard -> yard.clock(3));
        refused(Stage.MIDST, "kept", INDEX, yard -> yard.kept(3));
        refused(Stage.MIDST, "waiting", INDEX, yard -> yard.waiting(3));
        refused(Stage.MIDST, "strays", INDEX, yard -> yard.strays(3));
        refused(Stage.MIDST, "saved", INDEX, yard -> yard.saved(3));
        refused(Stage.MIDST, "remembered", INDEX, yard -> yard.remembered(3));
        refused(Stage.MIDST, "backs", INDEX, yard -> yard.backs(3));
        refused(Stage.MIDST, "plain", INDEX, yard -> yard.plain(3));
        refused(Stage.MIDST, "print", NONE, yard -> yard.print(1));
        refused(Stage.MIDST, "printTime", NONE, yard -> yard.printTime(1));
        refused(Stage.MIDST, "stateAt of no process", INDEX, yard -> yard.stateAt(3, 50));
        refused(Stage.MIDST, "stateAt no time", ARGUMENT, yard -> yard.stateAt(0, 1000));
        refused(Stage.MIDST, "stateAt below the bound", NONE, yard -> yard.stateAt(0, 5));
    }

    private static void asAllIsTold() {
        refused(Stage.TOLD_ALL, "the forty-first message", STATE, yard -> yard.message(0, 50, 0, 1L));
        refused(Stage.TOLD_ALL, "the forty-first below the bound", UNSUPPORTED, yard -> yard.message(0, 5, 0, 1L));
        refused(Stage.TOLD_ALL, "process", UNSUPPORTED, yard -> yard.process(0));
    }
}
