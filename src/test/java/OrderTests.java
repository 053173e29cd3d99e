/** "The order of events of a process is by times, then by senders, [..] the lesser first": each part by itself. */
final class OrderTests {
    private static final long MOST = Long.MAX_VALUE;
    private static final long LEAST = Long.MIN_VALUE;

    private OrderTests() {
    }

    static void runAll() {
        timesFirst();
        outsideAheadOfProcesses();
        outsideAheadBehindACommit();
        sendersByNumbers();
        countsOfOneSender();
        kindsOfOneCount();
        valuesOfOneKind();
        likeOnesHaveNoOrder();
        processesOfOneTime();
        committedByTheOrder();
        queueByTheOrder();
    }

    /** Process 2 takes 31 times its state and more by the value: its state tells the order of what it ran. */
    private static TimewarpYard three() {
        TimewarpYard yard = Yards.apart(3, 9);
        for (int kind = 0; kind < 4; kind++) {
            yard.rule(2, kind, '*', -1, 1, 0);
        }
        return yard;
    }

    private static void timesFirst() {
        TimewarpYard yard = three();
        yard.rule(1, 0, '=', 2, 9, 3);
        yard.message(2, 11, 0, LEAST);
        yard.message(1, 1, 0, MOST);
        yard.tick(2);
        Check.due("order: by times first", yard.backs(2), 1);
        Check.due("order: the earlier one, of all else the greater", yard.state(2), 31 * MOST + LEAST);
    }

    private static void outsideAheadOfProcesses() {
        TimewarpYard yard = three();
        yard.rule(0, 0, '=', 2, 9, 0);
        yard.message(2, 11, 1, 0L);
        yard.message(0, 1, 0, 5L);
        yard.tick(2);
        yard.message(2, 10, 3, 7L);
        yard.tick(1);
        Check.due("order: the sender -1 is ahead of 0", yard.stateAt(2, 11), 7 * 31 + 5);
    }

    /** Told as messages of processes were committed and taken back: it has the sender -1 all the same. */
    private static void outsideAheadBehindACommit() {
        TimewarpYard yard = three();
        yard.rule(0, 0, '=', 2, 9, 0);
        for (int time = 1; time < 9; time++) {
            yard.message(0, time, 0, 1L);
        }
        yard.tick(1);
        yard.fault(0);
        yard.tick(9);
        yard.commit();
        long before = yard.state(2);
        yard.message(0, 41, 0, 5L);
        for (int i = 0; i < 9; i++) {
            yard.message(2, 50, 1, 7L);
            before = 31 * before + 7;
        }
        yard.tick(2);
        Check.due("order: the sender -1 is ahead, of greater counts", yard.state(2), 31 * before + 5);
        Check.due("order: as by one queue behind a commit", yard.plain(2), 31 * before + 5);
    }

    private static void sendersByNumbers() {
        TimewarpYard yard = three();
        yard.rule(0, 0, '=', 2, 9, 3);
        yard.rule(1, 0, '=', 2, 9, 0);
        yard.message(1, 11, 0, 2L);
        yard.message(0, 1, 0, 3L);
        yard.tick(2);
        yard.message(0, 11, 0, 4L);
        yard.tick(2);
        Check.due("order: the lesser sender, of the greater count, kind and value", yard.state(2), (3 * 31 + 4) * 31 + 2);
        Check.due("order: as by one queue", yard.plain(2), yard.state(2));
    }

    private static void countsOfOneSender() {
        TimewarpYard yard = three();
        yard.message(2, 10, 3, 9L);
        yard.message(2, 10, 0, 1L);
        yard.tick(1);
        Check.due("order: by counts, of the greater kind and value", yard.state(2), 9 * 31 + 1);
        yard.message(2, 10, 0, 0L);
        yard.tick(1);
        Check.due("order: a greater count is behind", yard.backs(2), 0);
        Check.due("order: and is run behind", yard.state(2), (9 * 31 + 1) * 31);
    }

    /** Two of one sender and count are there at once, as what takes the first one back goes the longest way. */
    private static TimewarpYard twoOfOneCount(int firstKind, long first, int secondKind, long second) {
        TimewarpYard yard = Yards.apart(2, 1);
        yard.rule(0, 0, '=', 1, 10, firstKind);
        yard.rule(0, 1, '=', 1, 15, secondKind);
        for (int kind = 0; kind < 4; kind++) {
            yard.rule(1, kind, '*', -1, 1, 0);
        }
        yard.message(0, 20, 0, first);
        yard.tick(2);
        yard.delay(0, 1, 20);
        yard.fault(0);
        yard.delay(0, 1, 1);
        yard.message(0, 15, 1, second);
        yard.tick(2);
        return yard;
    }

    private static void kindsOfOneCount() {
        TimewarpYard lesser = twoOfOneCount(3, 4L, 2, 5L);
        Check.due("order: a lesser kind, of a greater value", lesser.backs(1), 1);
        Check.due("order: is run", lesser.state(1), 5);
        TimewarpYard greater = twoOfOneCount(0, 5L, 1, 4L);
        Check.due("order: a greater kind, of a lesser value", greater.backs(1), 0);
        Check.due("order: is run behind", greater.state(1), 5 * 31 + 4);
        for (TimewarpYard yard : new TimewarpYard[] {lesser, greater}) {
            yard.tick(30);
            Check.due("order: taken back at last", yard.isTrue() && yard.isOver(), true);
        }
    }

    private static void valuesOfOneKind() {
        long[][] pairs = {{LEAST, MOST}, {LEAST, 0}, {-1, MOST}, {-1, 0}, {0, 1}, {MOST - 1, MOST}, {LEAST, LEAST + 1},
            {1L, 1L << 40}};
        for (long[] pair : pairs) {
            TimewarpYard lesser = twoOfOneCount(2, pair[1], 2, pair[0]);
            Check.due("order: " + pair[0] + " behind which " + pair[1] + " is kept", lesser.backs(1), 1);
            TimewarpYard greater = twoOfOneCount(2, pair[0], 2, pair[1]);
            Check.due("order: " + pair[1] + " ahead of which " + pair[0] + " is kept", greater.backs(1), 0);
            Check.due("order: " + pair[1] + " is run behind", greater.state(1), 31 * pair[0] + pair[1]);
        }
    }

    private static void likeOnesHaveNoOrder() {
        TimewarpYard yard = twoOfOneCount(2, 7L, 2, 7L);
        Check.due("order: none is behind one like it", yard.backs(1), 0);
        Check.due("order: both are kept", yard.kept(1), 2);
        Check.due("order: true", yard.isTrue(), true);
    }

    /** Of one time the lesser process is first, whatever came first and is lesser else. */
    private static void processesOfOneTime() {
        TimewarpYard yard = Yards.machines(1);
        for (int i = 0; i < 3; i++) {
            yard.process(0);
        }
        yard.message(2, 10, 0, 1L);
        yard.message(1, 10, 1, 2L);
        yard.message(0, 10, 3, 3L);
        yard.message(2, 9, 3, 3L);
        for (int process : new int[] {2, 0, 1, 2}) {
            int before = yard.kept(process);
            yard.tick(1);
            Check.due("order: of several processes, next " + process, yard.kept(process), before + 1);
        }
    }

    /** What prints in one commit is in the order of events, though the greater process ran first. */
    private static void committedByTheOrder() {
        TimewarpYard yard = Yards.machines(1, 9);
        yard.process(0);
        yard.process(1);
        for (int kind = 0; kind < 4; kind++) {
            yard.prints(0, kind, true);
            yard.prints(1, kind, true);
            yard.rule(0, kind, '=', -1, 1, 0);
            yard.rule(1, kind, '=', -1, 1, 0);
        }
        yard.message(1, 10, 0, 1L);
        yard.message(1, 10, 0, 2L);
        yard.message(1, 11, 0, 3L);
        yard.message(0, 10, 3, 4L);
        yard.message(0, 12, 3, 5L);
        yard.tick(2);
        yard.commit();
        long[] states = {4, 1, 2, 3, 5};
        int[] times = {10, 10, 10, 11, 12};
        Check.due("order: all printed", yard.printed(), 5);
        for (int i = 0; i < 5; i++) {
            Check.due("order: printed " + i, yard.print(i), states[i]);
            Check.due("order: time of what was printed " + i, yard.printTime(i), times[i]);
        }
    }

    private static void queueByTheOrder() {
        TimewarpYard yard = three();
        yard.rule(0, 0, '=', 2, 9, 0);
        yard.rule(1, 0, '=', 2, 9, 0);
        yard.message(2, 11, 0, 1L);
        yard.message(2, 10, 3, 2L);
        yard.message(1, 1, 0, 3L);
        yard.message(0, 1, 0, 4L);
        yard.message(2, 10, 0, 5L);
        long state = 0;
        for (long value : new long[] {2, 5, 4, 3, 1}) {
            state = 31 * state + value;
        }
        Check.due("P37 one queue by the order", yard.plain(2), state);
        yard.tick(5);
        Check.due("P17 and so by ticks", yard.state(2), state);
    }
}
