/** What there can be at most, and what each number does at the edges of its range. */
final class LimitTests {
    private static final Class<IllegalStateException> STATE = IllegalStateException.class;
    private static final Class<UnsupportedOperationException> UNSUPPORTED = UnsupportedOperationException.class;

    private LimitTests() {
    }

    static void runAll() {
        fourMachines();
        machinesBehindAMessage();
        eightProcesses();
        fortyMessages();
        fortyMessagesWithRefused();
        speedsAtTheEdges();
        delaysAtTheEdges();
        delayOfTheOutside();
        afterAtTheEdges();
        horizonOfMessages();
        horizonOfRules();
        horizonOne();
        windowAtTheEdges();
        windowOfNothing();
        savesAtTheEdges();
        savesLessFromNowOn();
        roomOfOne();
        roomOfSome();
        roomByMoves();
        roomOf999();
    }

    private static void fourMachines() {
        TimewarpYard yard = new TimewarpYard();
        for (int i = 0; i < 4; i++) {
            Check.due("P2 number", yard.machine(1 + i), i);
        }
        Check.dueThrow("P2 the fifth", STATE, () -> yard.machine(1));
        Check.dueThrow("P2 the fifth again", STATE, () -> yard.machine(9));
        for (int i = 0; i < 4; i++) {
            Check.due("P3 a process on each", yard.process(i), i);
        }
        for (int i = 0; i < 4; i++) {
            for (int k = 0; k < 6; k++) {
                yard.message(i, 10 * k, 0, 1L);
            }
        }
        yard.tick(1);
        for (int i = 0; i < 4; i++) {
            Check.due("P2 each with its speed", yard.kept(i), 1 + i);
        }
    }

    /** No exception of machine tells of messages: it can come at any time. */
    private static void machinesBehindAMessage() {
        TimewarpYard yard = Yards.alone(1, 10, 20, 30);
        yard.tick(1);
        Check.due("P2 behind a message", yard.machine(9), 1);
        Check.due("P34 to that", yard.move(0, 1), 0);
        Check.due("P2 runs there", yard.tick(1), 2);
    }

    private static void eightProcesses() {
        TimewarpYard yard = Yards.machines(9, 9);
        for (int i = 0; i < 8; i++) {
            Check.due("P3 number", yard.process(1), i);
        }
        Check.dueThrow("P3 the ninth", STATE, () -> yard.process(0));
        Check.dueThrow("P3 the ninth again", STATE, () -> yard.process(1));
        for (int i = 0; i < 8; i++) {
            yard.message(i, 10, 0, 10L + i);
        }
        Check.due("P3 each on its machine", yard.tick(1), 8);
        for (int i = 0; i < 8; i++) {
            Check.due("P3 each with its state", yard.state(i), 10 + i);
        }
        Check.due("P40 each keeps one", yard.meanKept(), 1.0);
    }

    private static void fortyMessages() {
        TimewarpYard yard = Yards.apart(2, 9);
        for (int i = 0; i < 40; i++) {
            Check.due("P9 how many were told till then", yard.message(i % 2, i, 0, 1L), i);
        }
        Check.due("P24 forty under way", yard.flying(false), 40);
        Check.dueThrow("P9 the forty-first", STATE, () -> yard.message(0, 100, 0, 1L));
        Check.due("P24 forty still", yard.flying(false), 40);
        yard.tick(10);
        Check.due("P26 forty run", yard.done(), 40);
        Check.due("P17 twenty each", yard.state(1), 20);
        yard.commit();
        Check.dueThrow("P9 the forty-first, though none is left", STATE, () -> yard.message(0, 100, 0, 1L));
        Check.due("P37 forty in one queue", yard.plain(0), 20);
    }

    /** Those refused are not told. */
    private static void fortyMessagesWithRefused() {
        TimewarpYard yard = Yards.apart(1, 9);
        for (int i = 0; i < 40; i++) {
            Check.dueThrow("P9 refused", IllegalArgumentException.class, () -> yard.message(0, 201, 0, 1L));
            Check.due("P9 told till then", yard.message(0, 10, 0, 1L), i);
        }
        Check.dueThrow("P9 the forty-first of those told", STATE, () -> yard.message(0, 10, 0, 1L));
    }

    private static void speedsAtTheEdges() {
        for (int speed = 1; speed <= 9; speed++) {
            TimewarpYard yard = Yards.apart(1, speed);
            for (int i = 0; i < 20; i++) {
                yard.message(0, i, 0, 1L);
            }
            Check.due("terms: as many as its speed " + speed, yard.tick(1), speed);
            Check.due("terms: and again " + speed, yard.tick(1), speed);
            Check.due("P10 the sum of several " + speed, yard.tick(2), Math.min(2 * speed, 20 - 2 * speed));
        }
    }

    private static void delaysAtTheEdges() {
        for (int ticks : new int[] {1, 2, 19, 20}) {
            TimewarpYard yard = Yards.apart(2, 9);
            yard.delay(0, 1, ticks);
            yard.rule(0, 0, '+', 1, 10, 0);
            yard.message(0, 10, 0, 5L);
            yard.tick(1);
            if (ticks > 1) {
                Check.due("terms: not a tick before, " + ticks, yard.tick(ticks - 1), 0);
            }
            Check.due("terms: under way till then, " + ticks, yard.flying(false), 1);
            Check.due("terms: so many ticks later, " + ticks, yard.tick(1), 1);
        }
    }

    /** "A message from outside is due in the next tick", however long messages take. */
    private static void delayOfTheOutside() {
        TimewarpYard yard = Yards.apart(1, 9);
        yard.delay(0, 0, 20);
        yard.message(0, 10, 0, 5L);
        Check.due("terms: not before a tick", yard.waiting(0), 0);
        Check.due("terms: in the next tick", yard.tick(1), 1);
    }

    private static void afterAtTheEdges() {
        for (int after : new int[] {1, 2, 98, 99}) {
            TimewarpYard yard = Yards.apart(1, 9);
            yard.rule(0, 0, '=', 0, after, 3);
            yard.message(0, 100, 0, 5L);
            yard.tick(1);
            Check.due("terms: so many later, " + after, yard.bound(), 100 + after);
            yard.tick(1);
            Check.due("terms: itself too, " + after, yard.clock(0), 100 + after);
            Check.due("terms: the state then as its value, " + after, yard.state(0), 10);
        }
    }

    private static void horizonOfMessages() {
        TimewarpYard yard = Yards.apart(1, 9);
        yard.horizon(77);
        yard.message(0, 77, 0, 1L);
        yard.message(0, 0, 0, 1L);
        Check.due("terms: 0 to the horizon", yard.tick(1), 2);
        Check.due("terms: the horizon itself", yard.clock(0), 77);
    }

    /** "one that a rule would send for a later time is not sent, nor counted as sent." */
    private static void horizonOfRules() {
        for (int late = 0; late < 2; late++) {
            TimewarpYard yard = Yards.apart(2, 9);
            yard.horizon(109 - late);
            yard.rule(0, 0, '+', 1, 9, 0);
            yard.message(0, 100, 0, 5L);
            yard.tick(1);
            Check.due("terms: at the horizon, or one later", yard.flying(false), 1 - late);
            Check.due("P12 the bound by that", yard.bound(), late == 0 ? 109 : -1);
            yard.tick(1);
            Check.due("P19 come, or not", yard.kept(1), 1 - late);
            Check.due("P37 one queue too", yard.plain(1), late == 0 ? 5 : 0);
            yard.fault(0);
            Check.due("P29 what was not sent is not taken back", yard.antis(), 1 - late);
        }
    }

    private static void horizonOne() {
        TimewarpYard yard = Yards.apart(1, 9);
        yard.horizon(1);
        yard.rule(0, 0, '+', 0, 1, 0);
        yard.message(0, 0, 0, 1L);
        Check.due("terms: the times 0 and 1", yard.tick(5), 2);
        Check.due("terms: none behind", yard.isOver(), true);
        Check.due("P17 state", yard.state(0), 2);
    }

    /** The first machine is the lesser one: its event meets the bound before that of the second is run. */
    private static TimewarpYard windowed(int window, int bound, int time) {
        TimewarpYard yard = Yards.apart(2, 1);
        yard.window(window);
        yard.message(0, time, 0, 1L);
        yard.message(1, bound, 0, 1L);
        yard.tick(1);
        return yard;
    }

    private static void windowAtTheEdges() {
        for (int window : new int[] {0, 1, 50, 199}) {
            Check.due("terms: at the window above, " + window, windowed(window, 0, window).kept(0), 1);
            Check.due("terms: one more, " + window, windowed(window, 0, window + 1).kept(0), 0);
            Check.due("terms: the other runs, " + window, windowed(window, 0, window + 1).kept(1), 1);
        }
        Check.due("terms: at 200", windowed(200, 0, 200).kept(0), 1);
        Check.due("terms: above a bound of 120", windowed(80, 120, 200).kept(0), 1);
        Check.due("terms: one more above a bound of 119", windowed(80, 119, 200).kept(0), 0);
    }

    /** With the window 0 only what is at the bound is run, though all of that. */
    private static void windowOfNothing() {
        TimewarpYard yard = Yards.apart(1, 9);
        yard.rule(0, 0, '+', 0, 5, 1);
        yard.delay(0, 0, 3);
        yard.window(0);
        yard.message(0, 10, 0, 1L);
        yard.message(0, 10, 1, 1L);
        yard.message(0, 14, 1, 1L);
        yard.message(0, 15, 1, 1L);
        yard.message(0, 16, 1, 1L);
        Check.due("terms: up to what is under way", yard.tick(1), 4);
        Check.due("terms: not above it", yard.tick(2), 0);
        Check.due("terms: as that has come", yard.tick(1), 2);
    }

    private static void savesAtTheEdges() {
        for (int each : new int[] {1, 2, 19, 20}) {
            TimewarpYard yard = Yards.apart(1, 1);
            yard.saves(0, each);
            for (int i = 0; i < 40; i++) {
                yard.message(0, i, 0, 1L);
            }
            for (int kept = 1; kept <= 40; kept++) {
                yard.tick(1);
                Check.due("terms: saved again, each " + each + " of " + kept, yard.saved(0), 1 + kept / each);
            }
        }
    }

    /** "if as many kept events as told [..], or more, are behind the last saved ones". */
    private static void savesLessFromNowOn() {
        TimewarpYard yard = Yards.apart(1, 1);
        yard.saves(0, 20);
        for (int i = 0; i < 12; i++) {
            yard.message(0, i, 0, 1L);
        }
        yard.tick(7);
        Check.due("P8 none yet", yard.saved(0), 1);
        yard.saves(0, 3);
        Check.due("P8 not by telling", yard.saved(0), 1);
        yard.tick(1);
        Check.due("P8 behind the next one, as more are behind", yard.saved(0), 2);
        yard.tick(2);
        Check.due("P8 two behind that are too few", yard.saved(0), 2);
        yard.tick(1);
        Check.due("P8 three are as told", yard.saved(0), 3);
    }

    /** The first process has one message under way all the time, of the time 5 for twenty ticks: nothing later is safe. */
    private static TimewarpYard held(int processes) {
        TimewarpYard yard = Yards.apart(processes, 9);
        yard.rule(1, 1, '+', 1, 1, 1);
        yard.rule(0, 3, '+', 0, 1, 3);
        yard.delay(0, 0, 20);
        yard.message(0, 4, 3, 0L);
        yard.tick(1);
        return yard;
    }

    private static void roomOfOne() {
        TimewarpYard yard = held(2);
        yard.room(1, 1);
        yard.message(1, 50, 0, 1L);
        yard.message(1, 51, 0, 1L);
        Check.due("terms: fewer than its room", yard.tick(1), 1);
        Check.due("terms: as many as its room", yard.tick(1), 0);
        Check.due("P14 room again", yard.room(1, 2), 1);
        Check.due("P14 one more", yard.tick(1), 1);
        yard.message(1, 4, 0, 1L);
        Check.due("terms: one that is safe, and back to the room", yard.tick(1), 2);
        Check.due("terms: it keeps as many as its room", yard.kept(1), 2);
        yard.message(1, 3, 0, 1L);
        yard.room(1, 1);
        Check.due("terms: the safe ones go beyond it", yard.tick(1), 2);
        Check.due("terms: kept beyond it", yard.kept(1), 2);
    }

    private static void roomOfSome() {
        TimewarpYard yard = held(2);
        yard.room(1, 5);
        for (int i = 0; i < 9; i++) {
            yard.message(1, 50 + i, 0, 1L);
        }
        Check.due("terms: up to its room in one tick", yard.tick(1), 5);
        Check.due("terms: no more", yard.tick(1), 0);
        yard.room(1, 4);
        Check.due("P14 less room takes nothing away", yard.kept(1), 5);
        yard.fault(1);
        Check.due("terms: by the new room", yard.tick(1), 4);
        yard.commit();
        Check.due("P30 none below the bound", yard.kept(1), 4);
        Check.due("terms: still full", yard.tick(1), 0);
    }

    /** "its processes keep": those that are on it by now. */
    private static void roomByMoves() {
        TimewarpYard yard = held(3);
        yard.room(1, 2);
        for (int i = 0; i < 3; i++) {
            yard.message(1, 50 + i, 0, 1L);
            yard.message(2, 60 + i, 0, 1L);
        }
        Check.due("terms: two here, three there", yard.tick(1), 5);
        yard.move(1, 2);
        Check.due("P34 runs where there is room", yard.tick(1), 1);
        yard.move(2, 1);
        yard.message(2, 70, 0, 1L);
        Check.due("P34 three came, for two there is room", yard.tick(1), 0);
        yard.room(1, 4);
        Check.due("P34 room for the fourth", yard.tick(1), 1);
    }

    /** Nine chains of a hundred events and more run ahead, till the room is full. */
    private static void roomOf999() {
        for (int room = 998; room <= 999; room++) {
            TimewarpYard yard = held(2);
            yard.room(1, room);
            for (int i = 0; i < 9; i++) {
                yard.message(1, 80, 1, 1L);
            }
            yard.tick(100);
            Check.due("terms: there is room, " + room, yard.tick(10), 90);
            Check.due("terms: for the last ones, " + room, yard.tick(1), room - 990);
            Check.due("terms: no more than the room, " + room, yard.tick(1), 0);
            Check.due("P19 kept as many, " + room, yard.kept(1), room);
            Check.due("P22 saved behind each, " + room, yard.saved(1), room + 1);
            Check.due("P35 all of them wait again, " + room, yard.fault(1), room);
        }
    }
}
