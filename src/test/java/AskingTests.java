import java.util.NoSuchElementException;

/** Promises 17 to 33 and 36 to 42: what is asked, and committing. */
final class AskingTests {
    private static final Class<IndexOutOfBoundsException> INDEX = IndexOutOfBoundsException.class;
    private static final Class<IllegalArgumentException> ARGUMENT = IllegalArgumentException.class;
    private static final Class<NoSuchElementException> NONE = NoSuchElementException.class;
    private static final Class<ArithmeticException> ARITHMETIC = ArithmeticException.class;

    private AskingTests() {
    }

    static void runAll() {
        noSuchProcess();
        promises17To20();
        promise21();
        promise22();
        promise23();
        promise24();
        promises25To29();
        promise30();
        promise30Bounds();
        promises31To33();
        promise36();
        promise37();
        promise38();
        promises39And40();
        promise41();
        promise42();
    }

    private static void noSuchProcess() {
        TimewarpYard yard = Yards.apart(2, 1);
        for (int process : new int[] {-1, 2, 8, Integer.MIN_VALUE, Integer.MAX_VALUE}) {
            Check.dueThrow("P17 " + process, INDEX, () -> yard.state(process));
            Check.dueThrow("P18 " + process, INDEX, () -> yard.clock(process));
            Check.dueThrow("P19 " + process, INDEX, () -> yard.kept(process));
            Check.dueThrow("P20 " + process, INDEX, () -> yard.waiting(process));
            Check.dueThrow("P21 " + process, INDEX, () -> yard.strays(process));
            Check.dueThrow("P22 " + process, INDEX, () -> yard.saved(process));
            Check.dueThrow("P23 " + process, INDEX, () -> yard.remembered(process));
            Check.dueThrow("P25 " + process, INDEX, () -> yard.backs(process));
            Check.dueThrow("P36 " + process, INDEX, () -> yard.stateAt(process, -1));
            Check.dueThrow("P37 " + process, INDEX, () -> yard.plain(process));
        }
    }

    private static void promises17To20() {
        TimewarpYard yard = Yards.alone(2, 10, 20, 30);
        Check.due("P18 none yet", yard.clock(0), -1);
        Check.due("P20 none yet", yard.waiting(0), 0);
        yard.tick(1);
        Check.due("P17 state", yard.state(0), 2);
        Check.due("P18 the last kept one", yard.clock(0), 20);
        Check.due("P19 kept", yard.kept(0), 2);
        Check.due("P20 waiting", yard.waiting(0), 1);
        yard.commit();
        Check.due("P18 the last committed one", yard.clock(0), 20);
        Check.due("P19 none kept", yard.kept(0), 0);
        Check.due("P17 state as before", yard.state(0), 2);
        yard.tick(1);
        Check.due("P18 kept again", yard.clock(0), 30);
        yard.fault(0);
        Check.due("P18 the committed one again", yard.clock(0), 20);
        Check.due("P17 state of then", yard.state(0), 2);
    }

    /** What takes back overtakes its message, and stays till that comes. */
    private static void promise21() {
        TimewarpYard yard = Yards.apart(2, 9);
        yard.rule(0, 0, '+', 1, 10, 0);
        yard.delay(0, 1, 10);
        yard.message(0, 20, 0, 5L);
        yard.tick(1);
        yard.delay(0, 1, 1);
        yard.message(0, 10, 1, 3L);
        yard.tick(2);
        Check.due("P21 one stays", yard.strays(1), 1);
        Check.due("P21 the new one is run", yard.state(1), 8);
        Check.due("P21 no back by that", yard.backs(1), 0);
        Check.due("P21 not over", yard.isOver(), false);
        Check.due("P21 the other process", yard.strays(0), 0);
        Check.due("P21 nothing to run", yard.tick(8), 0);
        Check.due("P21 both are gone", yard.strays(1), 0);
        Check.due("P21 over", yard.isOver(), true);
        Check.due("P21 nothing went back", yard.backs(1), 0);
        Check.due("P21 state", yard.state(1), 8);
    }

    private static void promise22() {
        TimewarpYard yard = Yards.alone(9, 10, 20, 30, 40, 50, 60, 70);
        Check.due("P22 that ahead of all", yard.saved(0), 1);
        yard.saves(0, 2);
        yard.tick(1);
        Check.due("P22 behind the second, fourth and sixth", yard.saved(0), 4);
        yard.message(0, 30, 0, 1L);
        yard.tick(1);
        Check.due("P22 nothing that is kept is ahead of one like it in time", yard.silent(), 1);
        yard.cautious(0, true);
        yard.message(0, 50, 0, 1L);
        yard.message(0, 55, 0, 1L);
        Check.due("P22 below the bound", yard.commit(), 5);
        Check.due("P22 that behind the fifth, sixth and eighth", yard.saved(0), 3);
        Check.due("P22 kept", yard.kept(0), 3);
    }

    private static void promise23() {
        TimewarpYard yard = Yards.machines(1, 9);
        yard.process(0);
        yard.process(1);
        yard.rule(0, 0, '=', 1, 10, 0);
        yard.lazy(0, true);
        yard.message(0, 20, 0, 5L);
        yard.message(0, 30, 0, 6L);
        yard.message(0, 40, 1, 7L);
        yard.tick(4);
        Check.due("P23 none waits", yard.remembered(0), 0);
        yard.message(0, 10, 1, 3L);
        yard.tick(1);
        Check.due("P23 with each that sent", yard.remembered(0), 2);
        Check.due("P23 three wait", yard.waiting(0), 3);
        Check.due("P23 none of the other", yard.remembered(1), 0);
        yard.tick(1);
        Check.due("P23 one sends it again", yard.remembered(0), 1);
        yard.lazy(0, false);
        Check.due("P23 stays", yard.remembered(0), 1);
        yard.tick(2);
        Check.due("P23 all again", yard.remembered(0), 0);
        Check.due("P23 nothing is taken back", yard.antis(), 0);
    }

    private static void promise24() {
        TimewarpYard yard = Yards.apart(2, 9);
        yard.rule(0, 0, '+', 1, 10, 0);
        yard.delay(0, 1, 4);
        yard.message(0, 20, 0, 5L);
        yard.message(0, 30, 0, 5L);
        Check.due("P24 two from outside", yard.flying(false), 2);
        yard.tick(1);
        Check.due("P24 two sent", yard.flying(false), 2);
        Check.due("P24 none back", yard.flying(true), 0);
        yard.message(0, 10, 1, 5L);
        yard.tick(1);
        Check.due("P24 four sent", yard.flying(false), 4);
        Check.due("P24 two back", yard.flying(true), 2);
        yard.tick(4);
        Check.due("P24 none left", yard.flying(false) + yard.flying(true), 0);
    }

    private static void promises25To29() {
        TimewarpYard yard = Yards.alone(9, 10, 20, 30, 40);
        yard.saves(0, 4);
        yard.tick(1);
        Check.due("P26 done", yard.done(), 4);
        yard.message(0, 25, 0, 1L);
        yard.message(0, 35, 0, 1L);
        yard.message(0, 50, 0, 1L);
        yard.tick(1);
        Check.due("P25 one back", yard.backs(0), 1);
        Check.due("P26 done again", yard.done(), 9);
        Check.due("P27 undone", yard.undone(), 2);
        Check.due("P28 silent", yard.silent(), 2);
        Check.due("P29 no antis", yard.antis(), 0);
        yard.message(0, 15, 0, 1L);
        yard.tick(1);
        Check.due("P25 two backs", yard.backs(0), 2);
        Check.due("P27 undone then", yard.undone(), 8);
        Check.due("P28 silent then", yard.silent(), 3);
        yard.fault(0);
        Check.due("P25 by a fault", yard.backs(0), 3);
        Check.due("P27 by a fault", yard.undone(), 16);
        Check.due("P28 not by a fault", yard.silent(), 3);
        TimewarpYard other = Yards.apart(2, 9);
        other.rule(0, 0, '+', 1, 10, 0);
        other.message(0, 20, 0, 5L);
        other.message(0, 30, 0, 5L);
        other.tick(2);
        other.message(0, 10, 1, 1L);
        other.tick(2);
        Check.due("P29 two antis", other.antis(), 2);
        Check.due("P25 by the first of them", other.backs(1), 1);
        Check.due("P27 and those taken away", other.undone(), 4);
    }

    private static void promise30() {
        TimewarpYard yard = Yards.apart(2, 1);
        yard.message(0, 10, 0, 1L);
        yard.message(0, 20, 0, 2L);
        yard.message(1, 5, 0, 4L);
        yard.message(1, 20, 0, 8L);
        yard.message(1, 21, 0, 16L);
        Check.due("P30 nothing kept", yard.commit(), 0);
        yard.tick(1);
        Check.due("P30 those below the bound", yard.commit(), 2);
        Check.due("P30 no more", yard.commit(), 0);
        yard.tick(1);
        Check.due("P30 those below", yard.commit(), 2);
        yard.tick(1);
        Check.due("P30 all at last", yard.commit(), 1);
        Check.due("P30 none kept", yard.kept(0) + yard.kept(1), 0);
        Check.due("P30 state stays", yard.state(1), 28);
        Check.due("P30 one saved", yard.saved(1), 1);
        Check.due("P30 a fault brings nothing back", yard.fault(1), 0);
        TimewarpYard ahead = Yards.apart(2, 9);
        ahead.delay(0, 1, 9);
        ahead.rule(0, 0, '+', 1, 10, 0);
        ahead.message(0, 10, 0, 1L);
        ahead.message(1, 19, 0, 1L);
        ahead.message(1, 20, 0, 1L);
        ahead.message(1, 30, 0, 1L);
        ahead.tick(1);
        Check.due("P30 below what is under way, not of its time", ahead.commit(), 2);
        Check.due("P30 two kept", ahead.kept(1), 2);
        ahead.saves(1, 20);
        Check.due("P30 the one behind comes", ahead.tick(9), 2);
        Check.due("P30 goes back to what is left", ahead.backs(1), 1);
        Check.due("P30 state from what was committed", ahead.state(1), 4);
        Check.due("P30 true", ahead.isTrue(), true);
    }

    private static void promise30Bounds() {
        TimewarpYard yard = Yards.apart(2, 9);
        yard.commit();
        Check.due("P30 at first", yard.message(0, 0, 0, 1L), 0);
        yard.commit();
        Check.due("P30 the bound 0", yard.stateAt(0, 0), 0);
        yard.tick(1);
        yard.commit();
        Check.due("P30 one above the greatest", yard.message(0, 1, 0, 1L), 1);
        Check.dueThrow("P30 not the greatest", UnsupportedOperationException.class, () -> yard.message(0, 0, 0, 1L));
        yard.message(1, 50, 0, 1L);
        yard.tick(1);
        yard.commit();
        Check.dueThrow("P30 of all processes", UnsupportedOperationException.class, () -> yard.message(0, 50, 0, 1L));
        yard.message(0, 60, 0, 1L);
        yard.commit();
        Check.dueThrow("P30 the bound itself", UnsupportedOperationException.class, () -> yard.message(0, 59, 0, 1L));
        Check.due("P30 at it", yard.message(0, 60, 0, 1L), 4);
        yard.tick(1);
        Check.due("P30 both", yard.commit(), 2);
        Check.dueThrow("P30 never less", UnsupportedOperationException.class, () -> yard.message(0, 60, 0, 1L));
    }

    private static void promises31To33() {
        TimewarpYard yard = Yards.machines(9, 9);
        yard.process(1);
        yard.process(0);
        yard.prints(0, 1, true);
        yard.prints(1, 1, true);
        yard.rule(1, 1, '=', -1, 0, 0);
        Check.dueThrow("P32 none yet", NONE, () -> yard.print(0));
        Check.dueThrow("P33 none yet", NONE, () -> yard.printTime(0));
        yard.message(1, 10, 1, 77L);
        yard.message(0, 10, 1, 5L);
        yard.message(1, 9, 1, 66L);
        yard.message(0, 9, 0, 4L);
        yard.message(0, 11, 1, 1L);
        yard.tick(1);
        yard.message(0, 11, 0, 0L);
        Check.due("P31 not before it is committed", yard.printed(), 0);
        yard.commit();
        Check.due("P31 what is below the bound", yard.printed(), 3);
        Check.due("P32 by times", yard.print(0), 66);
        Check.due("P32 then by processes", yard.print(1), 9);
        Check.due("P32 the later process", yard.print(2), 77);
        Check.due("P33 time", yard.printTime(0), 9);
        Check.due("P33 time", yard.printTime(1), 10);
        Check.due("P33 time", yard.printTime(2), 10);
        Check.dueThrow("P32 no more", NONE, () -> yard.print(3));
        Check.dueThrow("P33 no more", NONE, () -> yard.printTime(3));
        Check.dueThrow("P32 -1", NONE, () -> yard.print(-1));
        Check.dueThrow("P33 -1", NONE, () -> yard.printTime(-1));
        yard.tick(1);
        yard.commit();
        Check.due("P31 the last one", yard.printed(), 4);
        Check.due("P32 the last one", yard.print(3), 10);
        Check.due("P33 the last one", yard.printTime(3), 11);
    }

    private static void promise36() {
        TimewarpYard yard = Yards.alone(9, 10, 10, 20);
        Check.dueThrow("P36 -1", ARGUMENT, () -> yard.stateAt(0, -1));
        Check.dueThrow("P36 1000", ARGUMENT, () -> yard.stateAt(0, 1000));
        Check.due("P36 none has run", yard.stateAt(0, 999), 0);
        yard.tick(1);
        Check.due("P36 ahead of all", yard.stateAt(0, 0), 0);
        Check.due("P36 ahead of those of its time", yard.stateAt(0, 10), 0);
        Check.due("P36 behind them", yard.stateAt(0, 11), 2);
        Check.due("P36 ahead of the last", yard.stateAt(0, 20), 2);
        Check.due("P36 behind the last", yard.stateAt(0, 21), 3);
        yard.message(0, 15, 0, 1L);
        Check.due("P36 not yet", yard.stateAt(0, 20), 2);
        yard.commit();
        Check.dueThrow("P36 below the bound", NONE, () -> yard.stateAt(0, 14));
        Check.dueThrow("P36 no number ahead of below", ARGUMENT, () -> yard.stateAt(0, -1));
        Check.due("P36 at the bound", yard.stateAt(0, 15), 2);
        Check.due("P36 behind what is kept", yard.stateAt(0, 21), 3);
        yard.tick(1);
        Check.due("P36 so far", yard.stateAt(0, 20), 3);
    }

    private static void promise37() {
        TimewarpYard yard = Yards.apart(2, 1);
        yard.horizon(100);
        yard.rule(0, 0, '?', 1, 10, 2);
        yard.rule(1, 2, '*', 0, 40, 0);
        Check.due("P37 nothing told", yard.plain(1), 0);
        yard.message(0, 10, 0, 0L);
        Check.due("P37 ahead of any tick", yard.plain(0), 71 + 94);
        Check.due("P37 the other", yard.plain(1), 31 * 71 + 71 + 94);
        yard.message(1, 30, 0, 5L);
        Check.due("P37 with the last told", yard.plain(1), 31 * (71 + 5) + 71 + 94);
        Check.due("P37 asked again", yard.plain(1), 31 * (71 + 5) + 71 + 94);
        Check.due("P37 nothing has run", yard.state(0), 0);
        Check.due("P37 nothing is done", yard.done(), 0);
        yard.tick(50);
        Check.due("P37 so it comes", yard.state(1), yard.plain(1));
        yard.commit();
        yard.message(1, 99, 3, -1L);
        Check.due("P37 behind what was committed", yard.plain(1), 31 * (71 + 5) + 71 + 94 - 1);
    }

    private static void promise38() {
        TimewarpYard yard = Yards.apart(2, 1);
        Check.due("P38 at first", yard.isOver(), true);
        yard.message(0, 10, 0, 1L);
        Check.due("P38 under way", yard.isOver(), false);
        yard.message(0, 20, 0, 1L);
        yard.tick(1);
        Check.due("P38 one waits", yard.isOver(), false);
        yard.tick(1);
        Check.due("P38 all run", yard.isOver(), true);
        yard.fault(0);
        Check.due("P38 waits again", yard.isOver(), false);
    }

    private static void promises39And40() {
        TimewarpYard yard = new TimewarpYard();
        Check.dueThrow("P40 no process", ARITHMETIC, () -> yard.meanKept());
        yard.machine(9);
        yard.process(0);
        Check.dueThrow("P39 none run", ARITHMETIC, () -> yard.wasteShare());
        Check.due("P40 none kept", yard.meanKept(), 0.0);
        yard.process(0);
        yard.process(0);
        yard.message(0, 10, 0, 1L);
        yard.message(1, 20, 0, 1L);
        yard.message(0, 30, 0, 1L);
        yard.message(2, 30, 0, 1L);
        yard.tick(1);
        Check.due("P39 none in vain", yard.wasteShare(), 0.0);
        Check.due("P40 mean", yard.meanKept(), 4.0 / 3.0);
        yard.message(0, 20, 0, 1L);
        yard.tick(1);
        Check.due("P39 one of six", yard.wasteShare(), 1.0f / 6.0f);
        Check.due("P40 mean then", yard.meanKept(), 5.0 / 3.0);
    }

    private static void promise41() {
        TimewarpYard yard = Yards.apart(2, 1);
        yard.rule(0, 0, '+', 1, 10, 0);
        yard.delay(0, 1, 9);
        yard.message(0, 20, 0, 5L);
        yard.message(1, 30, 0, -4L);
        yard.message(1, 40, 0, 4L);
        yard.tick(1);
        yard.message(0, 10, 0, 3L);
        yard.tick(1);
        yard.message(0, 50, 0, 1L);
        long[] parts = {3, 1, 1, 0, 2, 0, 4, 1};
        long sum = 7;
        for (long part : parts) {
            sum = 31 * sum + part;
        }
        Check.due("P41 flying", yard.flying(false) + yard.flying(true), 4);
        Check.due("P41 sum", yard.checksum(), sum);
    }

    private static void promise42() {
        TimewarpYard yard = Yards.apart(2, 3);
        yard.rule(0, 0, '+', 1, 3, 0);
        yard.rule(1, 0, '?', 0, 4, 0);
        yard.delay(0, 1, 4);
        yard.prints(1, 0, true);
        Check.due("P42 at first", yard.isTrue(), true);
        for (int i = 0; i < 40; i++) {
            yard.message(i % 2, 150 - 3 * i, 0, i);
            yard.tick(3);
            Check.due("P42 on the way", yard.isTrue(), true);
        }
        for (int i = 0; i < 50; i++) {
            yard.tick(100);
        }
        Check.due("P42 over", yard.isOver(), true);
        Check.due("P42 as by one queue", yard.isTrue(), true);
        yard.commit();
        Check.due("P42 in order", yard.isTrue(), true);
    }
}
