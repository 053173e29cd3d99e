import java.math.BigInteger;

/** "as longs go round", and the sums and shares that are made of them. */
final class RoundTests {
    private static final long MOST = Long.MAX_VALUE;
    private static final long LEAST = Long.MIN_VALUE;
    // A lot of the first process: 48271 modulo 100.
    private static final long FIRST_LOT = 71;

    private RoundTests() {
    }

    static void runAll() {
        plus();
        minus();
        times();
        instead();
        lots();
        lotsGoRound();
        streamsOfAll();
        sentWhole();
        checksumGoesRound();
        checksumOfEachPart();
        wasteShares();
        meansKept();
    }

    /** The state after such a work on a state, by ticks, by one queue, and behind going back silently. */
    private static void work(String what, char work, long state, long value, long want) {
        TimewarpYard yard = Yards.apart(1, 9);
        yard.rule(0, 0, '=', -1, 1, 0);
        yard.rule(0, 1, work, -1, 1, 0);
        yard.saves(0, 20);
        yard.message(0, 10, 0, state);
        yard.message(0, 20, 1, value);
        yard.message(0, 40, 2, 1L);
        yard.tick(1);
        Check.due(what + " one queue", yard.plain(0), want + 1);
        yard.message(0, 30, 0, 4L);
        yard.tick(1);
        Check.due(what + " silently", yard.silent(), 2);
        Check.due(what, yard.stateAt(0, 30), want);
        yard.commit();
        Check.due(what + " true", yard.isTrue(), true);
    }

    private static void plus() {
        work("+ one above the most", '+', MOST, 1, LEAST);
        work("+ one below the least", '+', LEAST, -1, MOST);
        work("+ the most twice", '+', MOST, MOST, -2);
        work("+ the least twice", '+', LEAST, LEAST, 0);
        work("+ nothing", '+', MOST, 0, MOST);
    }

    private static void minus() {
        work("- one below the least", '-', LEAST, 1, MOST);
        work("- one above the most", '-', MOST, -1, LEAST);
        work("- the least of 0", '-', 0, LEAST, LEAST);
        work("- the least of -1", '-', -1, LEAST, MOST);
        work("- the most of itself", '-', MOST, MOST, 0);
    }

    private static void times() {
        work("* the most", '*', MOST, 0, MOST - 30);
        work("* the most and more", '*', MOST, 31, LEAST);
        work("* the least", '*', LEAST, 0, LEAST);
        work("* the least and less", '*', LEAST, -1, MOST);
        work("* 0", '*', 0, LEAST, LEAST);
        work("* -1", '*', -1, 31, 0);
    }

    private static void instead() {
        work("= the most", '=', LEAST, MOST, MOST);
        work("= the least", '=', MOST, LEAST, LEAST);
        work("= 0", '=', MOST, 0, 0);
    }

    private static void lots() {
        work("? by a lot, whatever the value", '?', 0, MOST, FIRST_LOT);
        work("? by a lot, whatever the least value", '?', -FIRST_LOT, LEAST, 0);
    }

    private static void lotsGoRound() {
        work("? above the most", '?', MOST, 0, LEAST + FIRST_LOT - 1);
        work("? to the most", '?', MOST - FIRST_LOT, 0, MOST);
    }

    /** "a stream, 1 more than 7919 times its number at first", "itself times 48271 modulo 2147483647". */
    private static void streamsOfAll() {
        TimewarpYard yard = Yards.machines(9);
        for (int i = 0; i < 8; i++) {
            yard.process(0);
        }
        for (int i = 0; i < 8; i++) {
            yard.rule(i, 0, '?', i, 1, 0);
        }
        for (int i = 0; i < 8; i++) {
            yard.message(i, 0, 0, 1000L);
        }
        yard.tick(100);
        BigInteger modulus = BigInteger.valueOf(2147483647L);
        for (int i = 0; i < 8; i++) {
            BigInteger stream = BigInteger.valueOf(7919L * i + 1);
            long sum = 0;
            int kept = yard.kept(i);
            for (int k = 0; k < kept; k++) {
                stream = stream.multiply(BigInteger.valueOf(48271)).mod(modulus);
                sum += stream.mod(BigInteger.valueOf(100)).longValue();
            }
            Check.due("? many lots run " + i, kept > 90, true);
            Check.due("? many lots of " + i, yard.state(i), sum);
        }
    }

    private static void sentWhole() {
        for (long value : new long[] {LEAST, -1, 1L << 32, MOST}) {
            TimewarpYard yard = Yards.apart(2, 9);
            yard.rule(0, 0, '=', 1, 1, 0);
            yard.rule(1, 0, '-', -1, 1, 0);
            yard.message(0, 10, 0, value);
            yard.tick(2);
            Check.due("terms: the state then as its value " + value, yard.state(1), 0 - value);
            yard.fault(0);
            yard.tick(2);
            Check.due("terms: the whole of it is taken back " + value, yard.strays(1), 0);
            Check.due("terms: and sent again " + value, yard.isTrue() && yard.isOver(), true);
        }
    }

    private static long round(long... parts) {
        BigInteger sum = BigInteger.valueOf(7);
        for (long part : parts) {
            sum = sum.multiply(BigInteger.valueOf(31)).add(BigInteger.valueOf(part));
        }
        return sum.longValue();
    }

    private static void checksumGoesRound() {
        TimewarpYard yard = Yards.apart(3, 9);
        yard.message(0, 10, 0, MOST);
        yard.message(1, 10, 0, LEAST);
        yard.message(2, 10, 0, MOST - 3);
        yard.tick(1);
        Check.due("P41 goes round", yard.checksum(), round(MOST, 1, 0, LEAST, 1, 0, MOST - 3, 1, 0, 0, 0));
    }

    private static void checksumOfEachPart() {
        Check.due("P41 of nothing", new TimewarpYard().checksum(), round(0, 0));
        Check.due("P41 of machines alone", Yards.machines(1, 1).checksum(), round(0, 0));
        Check.due("P41 of a process", Yards.apart(1, 1).checksum(), round(0, 0, 0, 0, 0));
        TimewarpYard yard = Yards.apart(1, 1);
        yard.rule(0, 0, '+', 0, 10, 1);
        yard.delay(0, 0, 5);
        yard.message(0, 10, 0, 5L);
        yard.message(0, 20, 0, 6L);
        Check.due("P41 under way", yard.checksum(), round(0, 0, 0, 2, 0));
        yard.tick(1);
        Check.due("P41 one kept, one waits", yard.checksum(), round(5, 1, 1, 1, 0));
        yard.fault(0);
        Check.due("P41 two wait, one takes back", yard.checksum(), round(0, 0, 2, 2, 1));
        yard.tick(10);
        yard.commit();
        Check.due("P41 committed", yard.checksum(), round(27, 0, 0, 0, 1));
    }

    private static void wasteShares() {
        TimewarpYard yard = Yards.alone(9, 10, 20, 30);
        yard.tick(1);
        Check.due("P39 0 of 3", yard.wasteShare(), 0.0f);
        yard.message(0, 25, 0, 1L);
        yard.tick(1);
        Check.due("P39 1 of 5", yard.wasteShare(), 0.2f);
        yard.message(0, 15, 0, 1L);
        yard.tick(1);
        Check.due("P39 4 of 9, as floats divide", yard.wasteShare(), 4f / 9f);
        yard.fault(0);
        Check.due("P39 9 of 9", yard.wasteShare(), 1f);
        yard.tick(1);
        Check.due("P39 9 of 14", yard.wasteShare(), 9f / 14f);
        yard.commit();
        Check.due("P39 committed ones count", yard.wasteShare(), 9f / 14f);
    }

    private static void meansKept() {
        TimewarpYard yard = Yards.apart(3, 9);
        yard.message(1, 10, 0, 1L);
        Check.due("P40 none kept", yard.meanKept(), 0.0);
        yard.tick(1);
        Check.due("P40 1 of 3, as doubles divide", yard.meanKept(), 1.0 / 3.0);
        yard.message(1, 5, 0, 1L);
        yard.message(2, 5, 0, 1L);
        yard.tick(1);
        Check.due("P40 3 of 3", yard.meanKept(), 1.0);
        yard.message(2, 6, 0, 1L);
        yard.commit();
        Check.due("P40 without those committed", yard.meanKept(), 1.0 / 3.0);
    }
}
