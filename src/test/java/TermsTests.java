import java.util.NoSuchElementException;

/** The two examples of the document, and what its terms say of ticks, going back, laziness and order. */
final class TermsTests {
    private TermsTests() {
    }

    static void runAll() {
        exampleOne();
        exampleTwo();
        firstOfSeveralProcesses();
        machinesByNumbers();
        arrivalsAsSent();
        sendsTheSameAgain();
        sendsAnotherAgain();
        takenBackAtOnce();
        rememberedIsTakenBackWithItsEvent();
        othersRememberNothing();
        lotsGoBackToo();
        behindTheHorizonIsNotCounted();
        likeOnesAreTakenOneByOne();
        countsAheadOfKinds();
        timesAtTheEdges();
        longestQueue();
        manyPrints();
        throwingChangesNothing();
    }

    private static void exampleOne() {
        TimewarpYard yard = new TimewarpYard();
        Check.due("example 1 machine", yard.machine(2), 0);
        Check.due("example 1 process", yard.process(0), 0);
        Check.due("example 1 rule", yard.rule(0, 0, '+', 0, 10, 1), '+');
        Check.due("example 1 message", yard.message(0, 10, 0, 7L), 0);
        Check.due("example 1 tick", yard.tick(1), 1);
        Check.due("example 1 state", yard.state(0), 7);
        Check.due("example 1 flying", yard.flying(false), 1);
        Check.due("example 1 bound", yard.bound(), 20);
        Check.due("example 1 tick 2", yard.tick(1), 1);
        Check.due("example 1 state 2", yard.state(0), 14);
        Check.due("example 1 isOver", yard.isOver(), true);
        Check.due("example 1 commit", yard.commit(), 2);
    }

    private static void exampleTwo() {
        TimewarpYard yard = new TimewarpYard();
        Check.due("example 2 machine", yard.machine(1), 0);
        Check.due("example 2 process", yard.process(0), 0);
        Check.due("example 2 message", yard.message(0, 20, 0, 5L), 0);
        Check.due("example 2 tick", yard.tick(1), 1);
        Check.due("example 2 message 2", yard.message(0, 10, 0, 3L), 1);
        Check.due("example 2 tick 2", yard.tick(1), 1);
        Check.due("example 2 backs", yard.backs(0), 1);
        Check.due("example 2 undone", yard.undone(), 1);
        Check.due("example 2 waiting", yard.waiting(0), 1);
    }

    private static void firstOfSeveralProcesses() {
        TimewarpYard yard = Yards.machines(1);
        yard.process(0);
        yard.process(0);
        yard.message(1, 10, 0, 1L);
        yard.message(0, 10, 0, 1L);
        yard.message(1, 9, 0, 1L);
        yard.tick(1);
        Check.due("order: the earlier time", yard.kept(1), 1);
        yard.tick(1);
        Check.due("order: then the lesser process", yard.kept(0), 1);
        yard.tick(1);
        Check.due("order: then the other", yard.kept(1), 2);
    }

    /** The first machine runs while the event of the second still waits. */
    private static void machinesByNumbers() {
        TimewarpYard yard = Yards.apart(2, 1);
        yard.window(0);
        yard.message(0, 11, 0, 1L);
        yard.message(1, 10, 0, 1L);
        Check.due("machines: the second alone", yard.tick(1), 1);
        yard.message(0, 12, 0, 1L);
        yard.message(1, 12, 0, 1L);
        Check.due("machines: the first, and the second then", yard.tick(1), 2);
        Check.due("machines: clock", yard.clock(0), 11);
        Check.due("machines: the last one", yard.tick(1), 1);
    }

    /** The first to come sends the process back, the second need not: by when they are due, then as sent. */
    private static void arrivalsAsSent() {
        TimewarpYard yard = Yards.alone(9, 30, 40);
        yard.tick(1);
        yard.message(0, 20, 0, 1L);
        yard.message(0, 35, 0, 1L);
        yard.tick(1);
        Check.due("arrivals: one back", yard.backs(0), 1);
        yard.message(0, 38, 0, 1L);
        yard.message(0, 10, 0, 1L);
        yard.tick(1);
        Check.due("arrivals: two more", yard.backs(0), 3);
    }

    private static TimewarpYard lazyPair(int speed, char work) {
        TimewarpYard yard = Yards.machines(speed, 9);
        yard.process(0);
        yard.process(1);
        yard.rule(0, 0, work, 1, 10, 0);
        yard.lazy(0, true);
        return yard;
    }

    private static void sendsTheSameAgain() {
        TimewarpYard yard = lazyPair(9, '=');
        yard.message(0, 20, 0, 5L);
        yard.tick(2);
        yard.message(0, 10, 1, 3L);
        Check.due("lazy: both run", yard.tick(2), 2);
        Check.due("lazy: nothing taken back", yard.antis(), 0);
        Check.due("lazy: nothing sent anew", yard.flying(false), 0);
        Check.due("lazy: the other did not go back", yard.backs(1), 0);
        yard.message(0, 30, 0, 6L);
        yard.tick(2);
        yard.message(0, 25, 1, 3L);
        yard.tick(2);
        Check.due("lazy: counted as sent", yard.antis(), 0);
        yard.message(0, 15, 0, 9L);
        yard.tick(2);
        Check.due("lazy: another count is another message", yard.antis(), 2);
        Check.due("lazy: true", yard.isTrue(), true);
        Check.due("lazy: over", yard.isOver(), true);
    }

    /** What takes back goes ahead of what is sent anew: the other process goes back but once. */
    private static void sendsAnotherAgain() {
        TimewarpYard yard = lazyPair(9, '+');
        yard.message(0, 20, 0, 5L);
        yard.tick(2);
        yard.message(1, 40, 0, 1L);
        yard.message(0, 10, 1, 3L);
        yard.tick(1);
        Check.due("lazy: taken back as it runs again", yard.antis(), 1);
        Check.due("lazy: and sent anew", yard.flying(false), 1);
        yard.tick(1);
        Check.due("lazy: one back", yard.backs(1), 1);
        Check.due("lazy: two undone there, one here", yard.undone(), 3);
        Check.due("lazy: state", yard.state(1), 9);
        Check.due("lazy: true then", yard.isTrue(), true);
    }

    /** Without laziness it goes out as the late one comes, not as the event runs again. */
    private static void takenBackAtOnce() {
        TimewarpYard yard = lazyPair(1, '=');
        yard.lazy(0, false);
        yard.message(0, 20, 0, 5L);
        yard.tick(2);
        yard.message(0, 10, 1, 3L);
        Check.due("at once: the late one runs", yard.tick(1), 1);
        Check.due("at once: taken back", yard.flying(true), 1);
        Check.due("at once: nothing remembered", yard.remembered(0), 0);
        yard.tick(1);
        Check.due("at once: gone there", yard.kept(1), 0);
        Check.due("at once: sent anew", yard.flying(false), 1);
        yard.tick(1);
        Check.due("at once: come again", yard.state(1), 5);
    }

    /** 0 sends to 1, which is lazy and sends to 2: as its event is taken away, that goes back at once. */
    private static void rememberedIsTakenBackWithItsEvent() {
        for (int isLate = 0; isLate < 2; isLate++) {
            TimewarpYard yard = Yards.machines(9, 1, 9);
            for (int i = 0; i < 3; i++) {
                yard.process(i);
            }
            yard.rule(0, 0, '+', 1, 10, 0);
            yard.rule(1, 0, '=', 2, 10, 0);
            yard.rule(1, 1, '=', -1, 0, 0);
            yard.lazy(1, true);
            yard.message(0, 10, 0, 5L);
            yard.tick(3);
            Check.due("taken away: come to the last", yard.state(2), 5);
            yard.message(0, 5, 1, 1L);
            if (isLate == 1) {
                // The event waits already, with what it sent, as what takes it back comes.
                yard.message(1, 3, 1, 0L);
                yard.message(1, 4, 1, 0L);
                yard.message(1, 5, 1, 0L);
            }
            yard.tick(1);
            Check.due("taken away: remembered", yard.remembered(1), isLate);
            yard.tick(1);
            Check.due("taken away: taken back", yard.antis(), 2);
            Check.due("taken away: nothing remembered", yard.remembered(1), 0);
            Check.due("taken away: undone", yard.undone(), 2);
            yard.tick(1);
            Check.due("taken away: the last goes back", yard.backs(2), 1);
            yard.tick(4);
            Check.due("taken away: state", yard.state(2), 6);
            Check.due("taken away: true", yard.isTrue(), true);
        }
    }

    /** Others come behind those that were taken away with what was remembered, by one more or less. */
    private static void othersRememberNothing() {
        for (int more = 0; more < 2; more++) {
            TimewarpYard yard = Yards.machines(9, 1);
            yard.process(0);
            yard.process(1);
            yard.rule(0, 0, '+', 1, 10, 0);
            yard.rule(0, 1, '+', 1, 99, 1);
            yard.rule(1, 0, '+', 1, 10, 2);
            yard.lazy(1, true);
            for (int time = 10; time < 14; time++) {
                yard.message(0, time, 0, 5L);
            }
            yard.tick(9);
            yard.message(0, 5, 2, 1L);
            yard.tick(9);
            yard.tick(9);
            Check.due("others: taken away with what was remembered", yard.antis() > 4, true);
            if (more == 1) {
                yard.message(0, 100, 1, 0L);
                yard.tick(1);
            }
            for (int i = 0; i < 15; i++) {
                yard.message(1, 60 + i, 3, 0L);
            }
            yard.tick(1);
            Check.due("others: wait", yard.waiting(1) >= 14, true);
            Check.due("others: nothing is remembered with them", yard.remembered(1), 0);
        }
    }

    private static void lotsGoBackToo() {
        TimewarpYard yard = Yards.apart(1, 9);
        yard.rule(0, 0, '?', -1, 0, 0);
        yard.saves(0, 4);
        for (int time = 10; time <= 60; time += 10) {
            yard.message(0, time, 0, 0L);
        }
        yard.tick(1);
        long six = yard.state(0);
        yard.message(0, 35, 1, 1000L);
        yard.tick(1);
        Check.due("lots: the same again", yard.state(0), six + 1000);
        Check.due("lots: run silently", yard.silent(), 3);
        Check.due("lots: first", yard.stateAt(0, 11), 71);
        Check.due("lots: second", yard.stateAt(0, 21), 71 + 94);
    }

    /** What goes behind the horizon would change the count of the next one, if it were counted as sent. */
    private static void behindTheHorizonIsNotCounted() {
        TimewarpYard yard = Yards.machines(9, 9);
        yard.process(0);
        yard.process(1);
        yard.horizon(60);
        yard.rule(0, 0, '=', 1, 10, 0);
        yard.rule(0, 1, '=', 1, 99, 0);
        yard.lazy(0, true);
        yard.message(0, 20, 0, 5L);
        yard.tick(2);
        yard.message(0, 10, 1, 3L);
        yard.tick(1);
        Check.due("horizon: the same message again", yard.antis(), 0);
        Check.due("horizon: not sent", yard.flying(false), 0);
        Check.due("horizon: run", yard.state(0), 5);
    }

    /** A message that went back and was sent again, on a shorter way, is there twice for a while. */
    private static void likeOnesAreTakenOneByOne() {
        TimewarpYard yard = Yards.machines(9, 9);
        yard.process(0);
        yard.process(1);
        yard.rule(0, 0, '=', 1, 10, 0);
        yard.message(0, 20, 0, 5L);
        yard.tick(2);
        yard.delay(0, 1, 10);
        yard.fault(0);
        yard.delay(0, 1, 1);
        yard.tick(2);
        Check.due("like: both are kept", yard.kept(1), 2);
        Check.due("like: nothing went back there", yard.backs(1), 0);
        yard.tick(8);
        Check.due("like: one is left", yard.kept(1), 1);
        Check.due("like: one back", yard.backs(1), 1);
        Check.due("like: state", yard.state(1), 5);
        Check.due("like: over", yard.isOver(), true);
        Check.due("like: true", yard.isTrue(), true);
    }

    /** Two of one time and one sender: the one that was sent first is first, though its kind is greater. */
    private static void countsAheadOfKinds() {
        TimewarpYard yard = Yards.apart(2, 9);
        yard.rule(0, 0, '=', 1, 20, 1);
        yard.rule(0, 1, '=', 1, 10, 0);
        yard.rule(1, 0, '*', -1, 0, 0);
        yard.rule(1, 1, '*', -1, 0, 0);
        yard.message(0, 10, 0, 7L);
        yard.message(0, 20, 1, 3L);
        Check.due("counts: one queue", yard.plain(1), 7 * 31 + 3);
        yard.tick(2);
        Check.due("counts: run", yard.state(1), 7 * 31 + 3);
        yard.message(0, 5, 2, 3L);
        yard.tick(2);
        Check.due("counts: as before, behind going back", yard.state(1), 7 * 31 + 3);
        Check.due("counts: backs", yard.backs(1), 1);
    }

    private static void timesAtTheEdges() {
        TimewarpYard yard = Yards.alone(1, 0);
        Check.due("edges: the bound 0", yard.bound(), 0);
        yard.tick(1);
        yard.message(0, 200, 0, 1L);
        yard.message(0, 200, 0, 1L);
        Check.due("edges: the bound 200, under way", yard.bound(), 200);
        Check.due("edges: not over", yard.isOver(), false);
        Check.due("edges: the first is committed", yard.commit(), 1);
        Check.dueThrow("edges: below the bound 200", UnsupportedOperationException.class,
                () -> yard.message(0, 199, 0, 1L));
        yard.tick(1);
        Check.due("edges: the bound 200, waiting", yard.bound(), 200);
        Check.due("edges: not over yet", yard.isOver(), false);
        Check.due("edges: none below", yard.commit(), 0);
        Check.due("edges: at the bound", yard.message(0, 200, 0, 1L), 3);
        yard.tick(2);
        Check.due("edges: all", yard.commit(), 3);
        Check.dueThrow("edges: above every time", UnsupportedOperationException.class,
                () -> yard.message(0, 200, 0, 1L));
        Check.dueThrow("edges: below it", NoSuchElementException.class, () -> yard.stateAt(0, 200));
        Check.due("edges: at it", yard.stateAt(0, 201), 4);
    }

    private static void longestQueue() {
        TimewarpYard yard = Yards.apart(1, 9);
        yard.rule(0, 0, '?', 0, 1, 0);
        for (int i = 0; i < 40; i++) {
            yard.message(0, 0, 0, 0L);
        }
        long state = 0;
        long stream = 1;
        for (int i = 0; i < 40 * 201; i++) {
            stream = stream * 48271 % 2147483647;
            state += stream % 100;
        }
        Check.due("longest: one queue", yard.plain(0), state);
        for (int i = 0; i < 10; i++) {
            yard.tick(100);
        }
        Check.due("longest: over", yard.isOver(), true);
        Check.due("longest: run", yard.state(0), state);
        Check.due("longest: true", yard.isTrue(), true);
        Check.due("longest: committed", yard.commit(), yard.done() - yard.undone());
        Check.due("longest: all", yard.done() - yard.undone(), 40 * 201);
    }

    private static void manyPrints() {
        TimewarpYard yard = Yards.apart(1, 9);
        yard.rule(0, 0, '+', 0, 1, 0);
        yard.rule(0, 1, '=', -1, 0, 0);
        yard.prints(0, 0, true);
        yard.message(0, 0, 1, 1L);
        yard.message(0, 1, 0, 0L);
        for (int i = 0; i < 20; i++) {
            yard.tick(11);
            yard.commit();
        }
        Check.due("prints: all", yard.printed(), 200);
        for (int i = 0; i < 63; i++) {
            Check.due("prints: state", yard.print(i), 1L << i);
            Check.due("prints: time", yard.printTime(i), i + 1);
        }
        Check.due("prints: the last", yard.printTime(199), 200);
        Check.due("prints: in order", yard.isTrue(), true);
    }

    private static void throwingChangesNothing() {
        TimewarpYard yard = Yards.alone(2, 10, 20, 30);
        yard.tick(1);
        long before = yard.checksum();
        Class<IllegalArgumentException> argument = IllegalArgumentException.class;
        Check.dueThrow("throws: message", argument, () -> yard.message(0, 300, 0, 1L));
        Check.dueThrow("throws: tick", argument, () -> yard.tick(0));
        Check.dueThrow("throws: window", argument, () -> yard.window(300));
        Check.dueThrow("throws: fault", IndexOutOfBoundsException.class, () -> yard.fault(1));
        Check.dueThrow("throws: move", IndexOutOfBoundsException.class, () -> yard.move(0, 1));
        Check.due("throws: checksum", yard.checksum(), before);
        Check.due("throws: now", yard.now(), 1);
        Check.due("throws: window as it was", yard.window(200), 200);
        Check.due("throws: the next number", yard.message(0, 40, 0, 1L), 3);
    }
}
