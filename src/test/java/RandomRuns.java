import java.util.Random;

/** Runs of calls by chance, with wrong ones among them, each answer compared with that of SlowYard. */
final class RandomRuns {
    private static final int MOST_CALLS = 512;
    private static final char[] WORKS = {'+', '-', '*', '=', '?'};

    private final Random random;
    private final String name;
    private final TimewarpYard yard = new TimewarpYard();
    private final SlowYard slow = new SlowYard();
    private int calls = 0;

    private RandomRuns(long seed) {
        random = new Random(seed);
        name = "random run " + seed;
    }

    static void runAll(int runs) {
        for (int seed = 0; seed < runs; seed++) {
            int before = Check.failures();
            new RandomRuns(seed).runOne();
            if (Check.failures() > before) {
                return;
            }
        }
    }

    private int below(int limit) {
        return random.nextInt(limit);
    }

    private void runOne() {
        setUp();
        int before = Check.failures();
        while (calls < MOST_CALLS - 60 && Check.failures() == before) {
            step();
            for (int i = below(3); i > 0; i--) {
                observe(below(21), below(slow.beings.size()));
            }
        }
        for (int what = 0; what < 21 && Check.failures() == before; what++) {
            observe(what, below(slow.beings.size()));
        }
    }

    private void setUp() {
        int machines = 1 + below(4);
        for (int i = 0; i < machines; i++) {
            int speed = 1 + below(9);
            due("machine", yard.machine(speed), i);
            slow.machine(speed);
        }
        int processes = 1 + below(8);
        for (int i = 0; i < processes; i++) {
            int machine = below(machines);
            due("process", yard.process(machine), i);
            slow.process(machine);
        }
        if (below(3) > 0) {
            slow.horizon = 1 + below(200);
            due("horizon", yard.horizon(slow.horizon), 200);
        }
        boolean isDense = below(2) == 0;
        for (int i = isDense ? 8 * processes : below(4 * processes + 1); i > 0; i--) {
            tellRule(below(processes), below(4), isDense ? 5 : 40);
        }
        for (int i = below(6); i > 0; i--) {
            tellDelay();
        }
        for (int i = 0; i < machines; i++) {
            if (below(3) == 0) {
                due("lazy", yard.lazy(i, true) ? 1 : 0, 0);
                slow.machines.get(i)[2] = 1;
            }
        }
    }

    private void tellRule(int process, int kind, int latestAfter) {
        SlowYard.Being being = slow.beings.get(process);
        char work = WORKS[below(5)];
        int target = below(slow.beings.size() + 1) - 1;
        int after = 1 + (below(9) == 0 ? below(99) : below(latestAfter));
        int next = below(4);
        due("rule", yard.rule(process, kind, work, target, after, next), being.work[kind]);
        being.work[kind] = work;
        being.target[kind] = target;
        being.after[kind] = after;
        being.next[kind] = next;
        boolean prints = below(2) == 0;
        due("prints", yard.prints(process, kind, prints) ? 1 : 0, being.prints[kind] ? 1 : 0);
        being.prints[kind] = prints;
    }

    private void tellDelay() {
        int from = below(slow.machines.size());
        int to = below(slow.machines.size());
        int ticks = 1 + below(20);
        due("delay", yard.delay(from, to, ticks), slow.delays[from][to]);
        slow.delays[from][to] = ticks;
    }

    private void step() {
        int process = below(slow.beings.size());
        int machine = below(slow.machines.size());
        int choice = below(40);
        if (choice < 14) {
            int ticks = choice < 13 ? 1 : 1 + below(slow.told.size() == 40 ? 100 : 10);
            due("tick", yard.tick(ticks), slow.tick(ticks));
        } else if (choice < 20) {
            tellMessage(process);
        } else if (choice < 22) {
            refuse(process, machine);
        } else if (choice < 23) {
            due("commit", yard.commit(), slow.commit());
        } else if (choice < 27) {
            due("move", yard.move(process, machine), slow.beings.get(process).machine);
            slow.beings.get(process).machine = machine;
        } else if (choice < 28) {
            due("fault", yard.fault(machine), slow.fault(machine));
        } else if (choice < 33) {
            tellDelay();
        } else {
            tellMachine(choice, process, machine);
        }
    }

    private void tellMachine(int choice, int process, int machine) {
        int[] it = slow.machines.get(machine);
        if (choice == 33) {
            int each = 1 + below(20);
            due("saves", yard.saves(process, each), slow.beings.get(process).each);
            slow.beings.get(process).each = each;
        } else if (choice == 34) {
            int window = below(2) == 0 ? 200 : below(201);
            due("window", yard.window(window), slow.window);
            slow.window = window;
        } else if (choice == 35) {
            int room = below(2) == 0 ? 999 : 1 + below(30);
            due("room", yard.room(machine, room), it[3]);
            it[3] = room;
        } else if (choice == 36) {
            boolean is = below(2) == 0;
            due("cautious", yard.cautious(machine, is) ? 1 : 0, it[1]);
            it[1] = is ? 1 : 0;
        } else {
            boolean is = below(2) == 0;
            due("lazy", yard.lazy(machine, is) ? 1 : 0, it[2]);
            it[2] = is ? 1 : 0;
        }
    }

    /** Calls that throw, and change nothing. */
    private void refuse(int process, int machine) {
        int none = below(2) == 0 ? -1 - below(3) : 8 + below(3);
        int wrong = below(2) == 0 ? -1 - below(3) : 1000 + below(3);
        switch (below(9)) {
            case 0: refuseIndex(() -> yard.message(none, 0, 0, 0L)); break;
            case 1: refuseIndex(() -> yard.move(none, machine)); break;
            case 2: refuseIndex(() -> yard.move(process, none)); break;
            case 3: refuseIndex(() -> yard.fault(none)); break;
            case 4: refuseNumber(() -> yard.message(process, wrong, 0, 0L)); break;
            case 5: refuseNumber(() -> yard.tick(wrong)); break;
            case 6: refuseNumber(() -> yard.saves(process, wrong)); break;
            case 7: refuseNumber(() -> yard.room(machine, wrong)); break;
            default: refuseNumber(() -> yard.delay(machine, machine, wrong)); break;
        }
    }

    private void refuseIndex(Check.Call call) {
        calls++;
        Check.dueThrow(name + " call " + calls, IndexOutOfBoundsException.class, call);
    }

    private void refuseNumber(Check.Call call) {
        calls++;
        Check.dueThrow(name + " call " + calls, IllegalArgumentException.class, call);
    }

    private void tellMessage(int process) {
        int time = below(slow.horizon + 1);
        int kind = below(4);
        long value = below(4) == 0 ? random.nextLong() : below(3);
        if (time < slow.lastBound) {
            Check.dueThrow(name + " message", UnsupportedOperationException.class,
                    () -> yard.message(process, time, kind, value));
        } else if (slow.told.size() == 40) {
            Check.dueThrow(name + " message", IllegalStateException.class,
                    () -> yard.message(process, time, kind, value));
        } else {
            due("message", yard.message(process, time, kind, value), slow.told.size());
            slow.message(process, time, kind, value);
            return;
        }
        calls++;
    }

    private void observe(int what, int process) {
        SlowYard.Being being = slow.beings.get(process);
        switch (what) {
            case 0: due("state", yard.state(process), being.state); break;
            case 1: due("clock", yard.clock(process), slow.clock(process)); break;
            case 2: due("kept", yard.kept(process), being.kept.size()); break;
            case 3: due("waiting", yard.waiting(process), being.waiting.size()); break;
            case 4: due("strays", yard.strays(process), being.strays.size()); break;
            case 5: due("saved", yard.saved(process), being.saves.size()); break;
            case 6: due("remembered", yard.remembered(process), slow.remembered(process)); break;
            case 7: due("flying", yard.flying(false), slow.flying(false)); break;
            case 8: due("flying back", yard.flying(true), slow.flying(true)); break;
            case 9: due("backs", yard.backs(process), being.backs); break;
            case 10: due("done", yard.done(), slow.done); break;
            case 11: due("undone", yard.undone(), slow.undone); break;
            case 12: due("silent", yard.silent(), slow.silent); break;
            case 13: due("antis", yard.antis(), slow.antis); break;
            case 14: due("bound", yard.bound(), slow.bound()); break;
            case 15: due("now", yard.now(), slow.now); break;
            case 16: due("isOver", yard.isOver() ? 1 : 0, slow.isOver() ? 1 : 0); break;
            case 17: due("plain", yard.plain(process), slow.plain()[process]); break;
            case 18: due("checksum", yard.checksum(), slow.checksum()); break;
            case 19: due("isTrue", yard.isTrue() ? 1 : 0, 1); break;
            default: observeLong(process); break;
        }
    }

    private void observeLong(int process) {
        due("printed", yard.printed(), slow.prints.size());
        if (!slow.prints.isEmpty()) {
            int index = below(slow.prints.size());
            due("print", yard.print(index), slow.prints.get(index));
            due("printTime", yard.printTime(index), slow.printTimes.get(index));
        }
        int time = below(300);
        if (time >= slow.lastBound) {
            due("stateAt", yard.stateAt(process, time), slow.stateAt(process, time));
        }
    }

    private void due(String call, long got, long want) {
        calls++;
        Check.due(name + " call " + calls + " " + call, got, want);
    }
}
