import java.util.NoSuchElementException;

/** The edges of 'Committing' and 'One queue', and of what is asked behind a commit. */
final class CommitTests {
    private static final Class<NoSuchElementException> NONE = NoSuchElementException.class;
    private static final Class<UnsupportedOperationException> UNSUPPORTED = UnsupportedOperationException.class;

    private CommitTests() {
    }

    static void runAll() {
        belowTheBound();
        allOfOneTime();
        allAsNothingIsLeft();
        byWhatTakesBack();
        boundOfTheCommit();
        boundOfEmptyCommits();
        oneMoreThanTheGreatest();
        greatestOfAllProcesses();
        latestTimes();
        savedAheadOfTheFirstKept();
        savedBehindStays();
        countsFromTheSavedOne();
        backToWhatWasCommitted();
        countOfWhatWasSent();
        printsOnceOnly();
        printsWhatWasCommittedAlone();
        printsOfBothCommits();
        stateAtEachTime();
        stateAtWithoutThoseThatWait();
        stateAtBehindTheLatest();
        clocks();
        queueOfAllTold();
        queueToTheHorizon();
        queueWithoutTicks();
    }

    /** Three kept at the times 10, 20 and 30, and one to come at this time. */
    private static TimewarpYard keptThree(int time) {
        TimewarpYard yard = Yards.apart(2, 9);
        for (int i = 1; i <= 3; i++) {
            yard.message(0, 10 * i, 0, 1L);
        }
        yard.tick(1);
        yard.message(1, time, 0, 5L);
        return yard;
    }

    private static void belowTheBound() {
        int[] times = {0, 9, 10, 11, 19, 20, 21, 30, 31, 200};
        int[] due = {0, 0, 0, 1, 1, 1, 2, 2, 3, 3};
        for (int i = 0; i < times.length; i++) {
            TimewarpYard yard = keptThree(times[i]);
            Check.due("P30 with the bound " + times[i], yard.commit(), due[i]);
            Check.due("P19 kept still, " + times[i], yard.kept(0), 3 - due[i]);
            Check.due("P17 state as it was, " + times[i], yard.state(0), 3);
            Check.due("P18 clock as it was, " + times[i], yard.clock(0), 30);
            Check.due("P30 no more by the same bound, " + times[i], yard.commit(), 0);
            Check.due("P12 the bound as it was, " + times[i], yard.bound(), times[i]);
        }
    }

    private static void allOfOneTime() {
        TimewarpYard yard = Yards.alone(9, 20, 20, 20);
        yard.tick(1);
        yard.message(0, 20, 0, 1L);
        Check.due("P30 none of the bound's time", yard.commit(), 0);
        yard.tick(1);
        Check.due("P30 all four", yard.commit(), 4);
    }

    private static void allAsNothingIsLeft() {
        TimewarpYard yard = Yards.alone(9, 0, 100, 200);
        yard.tick(1);
        Check.due("P30 all, 200 too", yard.commit(), 3);
        Check.due("P19 none", yard.kept(0), 0);
        Check.due("P22 one saved", yard.saved(0), 1);
    }

    private static void byWhatTakesBack() {
        TimewarpYard yard = Yards.apart(3, 9);
        yard.rule(1, 0, '=', 2, 1, 1);
        yard.message(1, 19, 0, 1L);
        yard.message(0, 19, 0, 1L);
        yard.message(0, 20, 0, 1L);
        yard.tick(2);
        yard.delay(1, 2, 9);
        yard.fault(1);
        yard.delay(1, 2, 1);
        yard.tick(2);
        Check.due("P30 one that takes back alone is under way", yard.flying(true), 1);
        Check.due("P30 below its time", yard.commit(), 2);
        Check.due("P19 not at it", yard.kept(0), 1);
        Check.dueThrow("P9 the bound of the commit is its time", UNSUPPORTED, () -> yard.message(0, 19, 0, 1L));
        Check.due("P9 at its time", yard.message(0, 20, 0, 1L), 3);
    }

    private static void boundOfTheCommit() {
        TimewarpYard yard = keptThree(25);
        yard.commit();
        Check.dueThrow("P9 one below the bound 25", UNSUPPORTED, () -> yard.message(0, 24, 0, 1L));
        Check.dueThrow("P36 one below the bound 25", NONE, () -> yard.stateAt(0, 24));
        Check.due("P36 at the bound 25", yard.stateAt(0, 25), 2);
        Check.due("P9 at the bound 25", yard.message(0, 25, 0, 1L), 4);
        yard.tick(1);
        Check.due("P17 behind going back", yard.state(0), 4);
    }

    /** "the bound of the last commit is the greatest of all of these": one that commits nothing counts too. */
    private static void boundOfEmptyCommits() {
        TimewarpYard yard = Yards.apart(2, 9);
        yard.message(0, 40, 0, 1L);
        Check.due("P30 nothing", yard.commit(), 0);
        Check.dueThrow("P9 below 40 all the same", UNSUPPORTED, () -> yard.message(1, 39, 0, 1L));
        yard.message(0, 50, 0, 1L);
        Check.due("P9 at 40", yard.message(1, 40, 0, 1L), 2);
        yard.tick(1);
        yard.message(0, 60, 0, 1L);
        Check.due("P30 three", yard.commit(), 3);
        Check.dueThrow("P9 below 60", UNSUPPORTED, () -> yard.message(1, 59, 0, 1L));
        Check.dueThrow("P36 below 60, of a process without one of that time", NONE, () -> yard.stateAt(1, 59));
    }

    private static void oneMoreThanTheGreatest() {
        for (int time : new int[] {0, 1, 77, 199}) {
            TimewarpYard yard = Yards.alone(9, time);
            yard.tick(1);
            yard.commit();
            Check.dueThrow("P9 at the greatest " + time, UNSUPPORTED, () -> yard.message(0, time, 0, 1L));
            Check.dueThrow("P36 at the greatest " + time, NONE, () -> yard.stateAt(0, time));
            Check.due("P36 one more than the greatest " + time, yard.stateAt(0, time + 1), 1);
            Check.due("P9 one more than the greatest " + time, yard.message(0, time + 1, 0, 1L), 1);
        }
    }

    private static void greatestOfAllProcesses() {
        TimewarpYard yard = Yards.apart(3, 9);
        yard.message(0, 10, 0, 1L);
        yard.message(1, 80, 0, 1L);
        yard.message(2, 30, 0, 1L);
        yard.tick(1);
        Check.due("P30 all", yard.commit(), 3);
        Check.dueThrow("P9 by the second process", UNSUPPORTED, () -> yard.message(0, 80, 0, 1L));
        Check.due("P9 one more", yard.message(0, 81, 0, 1L), 3);
        yard.tick(1);
        Check.due("P30 one", yard.commit(), 1);
        Check.dueThrow("P9 by the first then", UNSUPPORTED, () -> yard.message(1, 81, 0, 1L));
    }

    /** Behind the time 200 nothing can be told any more, though stateAt can be asked. */
    private static void latestTimes() {
        TimewarpYard yard = Yards.alone(9, 200);
        yard.tick(1);
        yard.commit();
        Check.dueThrow("P9 the latest time", UNSUPPORTED, () -> yard.message(0, 200, 0, 1L));
        Check.dueThrow("P9 above the horizon", IllegalArgumentException.class, () -> yard.message(0, 201, 0, 1L));
        Check.dueThrow("P36 at 200", NONE, () -> yard.stateAt(0, 200));
        Check.due("P36 at 201", yard.stateAt(0, 201), 1);
        Check.due("P36 at 999", yard.stateAt(0, 999), 1);
    }

    /** Saved behind the 4th and the 8th of nine; a commit in between is a save itself, and the earlier ones go. */
    private static TimewarpYard keptNine(int bound) {
        TimewarpYard yard = Yards.apart(2, 9);
        yard.saves(0, 4);
        for (int i = 1; i <= 9; i++) {
            yard.message(0, 10 * i, 0, 1L);
        }
        yard.tick(1);
        yard.message(1, bound, 0, 1L);
        yard.commit();
        return yard;
    }

    private static void savedAheadOfTheFirstKept() {
        int[] due = {3, 3, 3, 3, 2, 2, 2, 2, 1, 1};
        for (int committed = 0; committed <= 9; committed++) {
            TimewarpYard yard = keptNine(10 * committed + 5);
            Check.due("P30 kept behind " + committed, yard.kept(0), 9 - committed);
            Check.due("P30 saved behind " + committed, yard.saved(0), due[committed]);
            Check.due("P30 state behind " + committed, yard.stateAt(0, 10 * committed + 5), committed);
        }
    }

    private static void savedBehindStays() {
        TimewarpYard yard = keptNine(25);
        yard.message(0, 55, 0, 1L);
        yard.window(0);
        yard.tick(1);
        Check.due("P28 one from that behind the 4th", yard.silent(), 1);
        Check.due("P22 the 4th's, and that of the commit", yard.saved(0), 2);
        Check.due("P19 three are kept still", yard.kept(0), 3);
        Check.due("P27 four were run in vain", yard.undone(), 4);
        Check.due("P10 they run again", yard.tick(1), 5);
        Check.due("P17 as by one queue", yard.state(0), yard.plain(0));
    }

    /** Two are kept behind the commit, so the 4th behind that is two events later. */
    private static void countsFromTheSavedOne() {
        TimewarpYard yard = Yards.apart(2, 1);
        yard.saves(0, 4);
        for (int i = 1; i <= 9; i++) {
            yard.message(0, 10 * i, 0, 1L);
        }
        yard.tick(3);
        yard.message(1, 15, 0, 1L);
        yard.commit();
        Check.due("P22 that of the commit alone", yard.saved(0), 1);
        Check.due("P19 two behind it", yard.kept(0), 2);
        yard.tick(1);
        Check.due("P22 three behind it", yard.saved(0), 1);
        yard.tick(1);
        Check.due("P22 four behind it", yard.saved(0), 2);
    }

    private static void backToWhatWasCommitted() {
        TimewarpYard yard = Yards.apart(2, 9);
        yard.rule(0, 0, '?', -1, 1, 0);
        yard.saves(0, 20);
        for (int i = 1; i <= 3; i++) {
            yard.message(0, 10 * i, 0, 1L);
        }
        yard.tick(1);
        long three = yard.state(0);
        yard.message(1, 25, 0, 1L);
        yard.commit();
        yard.message(0, 26, 1, 0L);
        yard.tick(1);
        Check.due("P28 none behind the commit", yard.silent(), 0);
        Check.due("P27 one", yard.undone(), 1);
        Check.due("P17 the stream too is that of the commit", yard.state(0), three);
        yard.fault(0);
        yard.tick(1);
        Check.due("P17 and again", yard.state(0), three);
    }

    /** The count goes on behind a commit: what is sent anew has the count that it had. */
    private static void countOfWhatWasSent() {
        TimewarpYard yard = Yards.apart(2, 9);
        yard.rule(0, 0, '=', 1, 99, 0);
        yard.lazy(0, true);
        for (int i = 1; i <= 4; i++) {
            yard.message(0, 10 * i, 0, i);
        }
        yard.tick(1);
        yard.message(1, 25, 0, 1L);
        Check.due("P30 two of four", yard.commit(), 2);
        yard.message(0, 26, 1, 0L);
        yard.tick(2);
        Check.due("P29 the third and the fourth as they were, in the counts too", yard.antis(), 0);
        yard.fault(0);
        Check.due("P29 two are taken back", yard.antis(), 2);
        yard.tick(9);
        Check.due("P42 and are found", yard.isOver() && yard.isTrue(), true);
    }

    private static TimewarpYard printing(int... times) {
        TimewarpYard yard = Yards.apart(2, 9);
        yard.prints(0, 0, true);
        for (int time : times) {
            yard.message(0, time, 0, 1L);
        }
        return yard;
    }

    private static void printsOnceOnly() {
        TimewarpYard yard = printing(10, 20);
        yard.tick(1);
        yard.message(0, 5, 1, 100L);
        yard.tick(1);
        yard.fault(0);
        yard.tick(1);
        Check.due("P31 told only then", yard.printed(), 0);
        yard.commit();
        Check.due("P31 once, though run three times", yard.printed(), 2);
        Check.due("P32 as it was in the end", yard.print(0), 101);
        yard.commit();
        Check.due("P31 not again", yard.printed(), 2);
    }

    private static void printsWhatWasCommittedAlone() {
        TimewarpYard yard = printing(10, 20, 30);
        yard.tick(1);
        yard.message(1, 20, 0, 1L);
        yard.commit();
        Check.due("P31 that below the bound", yard.printed(), 1);
        Check.due("P33 its time", yard.printTime(0), 10);
        Check.dueThrow("P32 not that at the bound", NONE, () -> yard.print(1));
    }

    /** The state then, not that by now; those of a later commit behind those of an earlier one. */
    private static void printsOfBothCommits() {
        TimewarpYard yard = printing(10, 20);
        yard.tick(1);
        yard.message(0, 15, 0, 1L);
        yard.commit();
        yard.tick(1);
        yard.commit();
        Check.due("P31 three", yard.printed(), 3);
        for (int i = 0; i < 3; i++) {
            Check.due("P32 the state then " + i, yard.print(i), 1 + i);
            Check.due("P33 the time " + i, yard.printTime(i), 10 + 5 * i);
        }
    }

    private static void stateAtEachTime() {
        TimewarpYard yard = Yards.alone(9, 0, 1, 1, 7, 200);
        yard.tick(1);
        int[] times = {0, 1, 2, 7, 8, 200, 201, 999};
        int[] states = {0, 1, 3, 3, 4, 4, 5, 5};
        for (int i = 0; i < times.length; i++) {
            Check.due("P36 at " + times[i], yard.stateAt(0, times[i]), states[i]);
        }
    }

    private static void stateAtWithoutThoseThatWait() {
        TimewarpYard yard = Yards.alone(2, 10, 20, 30);
        yard.tick(1);
        Check.due("P36 so far", yard.stateAt(0, 999), 2);
        yard.fault(0);
        Check.due("P36 none so far", yard.stateAt(0, 999), 0);
        yard.tick(2);
        Check.due("P36 all", yard.stateAt(0, 999), 3);
        yard.message(0, 15, 0, 1L);
        Check.due("P36 not what is under way", yard.stateAt(0, 20), 1);
    }

    private static void stateAtBehindTheLatest() {
        TimewarpYard yard = Yards.apart(2, 9);
        yard.message(0, 10, 0, 1L);
        yard.tick(1);
        yard.commit();
        Check.due("P36 of a process without events", yard.stateAt(1, 11), 0);
        yard.message(0, 50, 0, 1L);
        yard.tick(1);
        Check.due("P36 between what was committed and what is kept", yard.stateAt(0, 50), 1);
        Check.due("P36 behind what is kept", yard.stateAt(0, 51), 2);
        Check.dueThrow("P36 at the greatest committed", NONE, () -> yard.stateAt(1, 10));
    }

    private static void clocks() {
        TimewarpYard yard = Yards.apart(2, 1);
        yard.message(0, 0, 0, 1L);
        yard.tick(1);
        Check.due("P18 the time 0", yard.clock(0), 0);
        yard.commit();
        Check.due("P18 committed at the time 0", yard.clock(0), 0);
        Check.due("P18 the other has none", yard.clock(1), -1);
        yard.message(0, 30, 0, 1L);
        yard.tick(1);
        Check.due("P18 kept", yard.clock(0), 30);
        yard.message(0, 20, 0, 1L);
        yard.tick(1);
        Check.due("P18 gone back and run", yard.clock(0), 20);
        yard.fault(0);
        Check.due("P18 the last one committed", yard.clock(0), 0);
    }

    private static void queueOfAllTold() {
        TimewarpYard yard = Yards.apart(2, 1);
        yard.rule(0, 0, '*', 1, 10, 1);
        Check.due("P37 none told", yard.plain(0), 0);
        long state = 0;
        for (int i = 0; i < 40; i++) {
            yard.message(0, i, 0, i);
            state = 31 * state + i;
            Check.due("P37 so far " + i, yard.plain(0), state);
        }
        long sum = 0;
        long part = 0;
        for (int i = 0; i < 40; i++) {
            part = 31 * part + i;
            sum += part;
        }
        Check.due("P37 what was sent", yard.plain(1), sum);
        Check.due("P17 nothing was run", yard.state(0) + yard.done(), 0);
    }

    private static void queueToTheHorizon() {
        for (int horizon = 99; horizon <= 101; horizon++) {
            TimewarpYard yard = Yards.apart(1, 9);
            yard.horizon(horizon);
            yard.rule(0, 0, '=', 0, 10, 1);
            yard.rule(0, 1, '+', -1, 1, 0);
            yard.message(0, 90, 0, 7L);
            Check.due("P37 sent at the horizon, not behind it", yard.plain(0), horizon < 100 ? 7 : 14);
        }
    }

    /** By the order alone: neither ways, speeds, caution nor what was taken back matter. */
    private static void queueWithoutTicks() {
        TimewarpYard yard = Yards.apart(2, 1);
        yard.rule(0, 0, '=', 1, 5, 0);
        yard.rule(1, 0, '*', -1, 1, 0);
        yard.message(0, 20, 0, 3L);
        yard.message(1, 30, 0, 4L);
        long want = 3 * 31 + 4;
        Check.due("P37 by the order", yard.plain(1), want);
        yard.delay(0, 1, 20);
        yard.cautious(1, true);
        yard.tick(5);
        yard.fault(0);
        Check.due("P37 all the same", yard.plain(1), want);
        yard.tick(50);
        yard.commit();
        Check.due("P37 behind a commit", yard.plain(1), want);
        Check.due("P17 as it has come", yard.state(1), want);
    }
}
