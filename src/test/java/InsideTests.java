import com.sun.management.ThreadMXBean;
import java.lang.management.ManagementFactory;
import java.lang.reflect.Field;
import java.util.ArrayList;
import java.util.Random;

/** What the face cannot show: that isTrue sees what is wrong, and how much is made in a long run. */
final class InsideTests {
    private static final long MOST_BYTES = 2_000_000L;
    private static final long FEW_BYTES = 60_000L;

    private InsideTests() {
    }

    static void runAll() {
        try {
            stateIsNotThatOfOneQueue();
            stateOfTheSecondProcess();
            keptOutOfOrder();
            keptOutOfOrderLater();
            keptBehindOneThatWaits();
            keptBehindTheFirstOfTwo();
            oneStaysAlone();
            whatStaysDoesNotCount();
            printedOutOfOrder();
        } catch (ReflectiveOperationException e) {
            throw new IllegalStateException(e);
        }
        littleIsMade();
        littleIsMadeByOneQueue();
        littleIsMadeWithCommits();
    }

    private static Object get(Object from, String name) throws ReflectiveOperationException {
        Field field = from.getClass().getDeclaredField(name);
        field.setAccessible(true);
        return field.get(from);
    }

    private static void set(Object in, String name, Object value) throws ReflectiveOperationException {
        Field field = in.getClass().getDeclaredField(name);
        field.setAccessible(true);
        field.set(in, value);
    }

    private static Object actor(TimewarpYard yard) throws ReflectiveOperationException {
        return ((ArrayList<?>) get(yard, "actors")).get(0);
    }

    private static void stateIsNotThatOfOneQueue() throws ReflectiveOperationException {
        TimewarpYard yard = Yards.alone(9, 10, 20);
        yard.tick(1);
        set(get(actor(yard), "current"), "state", 5L);
        Check.due("P42 another state", yard.isTrue(), false);
        yard.message(0, 30, 0, 0L);
        Check.due("P42 not while something is under way", yard.isTrue(), true);
    }

    private static void stateOfTheSecondProcess() throws ReflectiveOperationException {
        TimewarpYard yard = Yards.apart(2, 9);
        yard.message(1, 10, 0, 4L);
        yard.tick(1);
        Check.due("P42 the second process's state", yard.isTrue(), true);
        Object second = ((ArrayList<?>) get(yard, "actors")).get(1);
        set(get(second, "current"), "state", 5L);
        Check.due("P42 another state of the second process", yard.isTrue(), false);
    }

    private static void keptOutOfOrder() throws ReflectiveOperationException {
        TimewarpYard yard = Yards.alone(9, 10, 20);
        yard.tick(1);
        set(get(get(actor(yard), "keptOnes"), "first"), "time", 21);
        Check.due("P42 kept out of order", yard.isTrue(), false);
    }

    private static void keptOutOfOrderLater() throws ReflectiveOperationException {
        for (int time = 20; time <= 31; time += 11) {
            TimewarpYard yard = Yards.alone(9, 10, 20, 30);
            yard.tick(1);
            Object first = get(get(actor(yard), "keptOnes"), "first");
            set(get(first, "next"), "time", time);
            Check.due("P42 kept out of order behind the first, " + time, yard.isTrue(), time == 20);
        }
    }

    private static void keptBehindOneThatWaits() throws ReflectiveOperationException {
        TimewarpYard yard = Yards.alone(1, 10, 20);
        yard.tick(1);
        set(get(get(actor(yard), "waitingOnes"), "first"), "time", 9);
        Check.due("P42 kept behind one that waits", yard.isTrue(), false);
    }

    private static void keptBehindTheFirstOfTwo() throws ReflectiveOperationException {
        TimewarpYard yard = Yards.alone(1, 10, 20, 30);
        yard.tick(1);
        set(get(get(actor(yard), "waitingOnes"), "first"), "time", 9);
        Check.due("P42 kept behind the first of two that wait", yard.isTrue(), false);
    }

    /** By the face this can't come about: a message like what stays is always under way. */
    private static void oneStaysAlone() throws ReflectiveOperationException {
        TimewarpYard yard = Yards.apart(1, 1);
        set(get(actor(yard), "strayOnes"), "size", 1);
        Check.due("P38 one stays alone", yard.isOver(), false);
    }

    /** By the face this can't be told: of the time of what stays there is always a message under way. */
    private static void whatStaysDoesNotCount() throws ReflectiveOperationException {
        TimewarpYard yard = Yards.apart(2, 9);
        yard.rule(0, 0, '=', 1, 10, 0);
        yard.delay(0, 1, 20);
        yard.message(0, 20, 0, 7L);
        yard.tick(1);
        yard.delay(0, 1, 1);
        yard.fault(0);
        yard.tick(1);
        Object second = ((ArrayList<?>) get(yard, "actors")).get(1);
        Check.due("P21 one stays", yard.strays(1), 1);
        set(get(get(second, "strayOnes"), "first"), "time", 5);
        Check.due("P12 what stays does not count", yard.bound(), 30);
        yard.message(0, 15, 1, 0L);
        yard.cautious(0, true);
        yard.window(0);
        Check.due("P15 nor for what is safe or in the window", yard.tick(1), 3);
        Check.due("P30 nor for a commit", yard.commit(), 2);
    }

    private static void printedOutOfOrder() throws ReflectiveOperationException {
        TimewarpYard yard = Yards.apart(1, 9);
        yard.prints(0, 0, true);
        yard.message(0, 10, 0, 1L);
        yard.message(0, 20, 0, 1L);
        yard.tick(1);
        yard.commit();
        ((int[]) get(get(yard, "printout"), "times"))[0] = 21;
        Check.due("P42 printed out of order", yard.isTrue(), false);
    }

    private static long made() {
        ThreadMXBean threads = (ThreadMXBean) ManagementFactory.getThreadMXBean();
        return threads.getThreadAllocatedBytes(Thread.currentThread().getId());
    }

    /** A process that sends itself a message a time later, for all times. */
    private static TimewarpYard chained() {
        TimewarpYard yard = Yards.apart(1, 9);
        yard.rule(0, 0, '+', 0, 1, 0);
        return yard;
    }

    private static void littleIsMadeByOneQueue() {
        TimewarpYard yard = chained();
        long before = made();
        for (int i = 0; i < 40; i++) {
            yard.message(0, 0, 0, 1L);
            yard.plain(0);
        }
        long made = made() - before;
        Check.due("room: one queue anew, forty times, made " + made, made <= FEW_BYTES, true);
    }

    private static void littleIsMadeWithCommits() {
        TimewarpYard yard = chained();
        for (int i = 0; i < 40; i++) {
            yard.message(0, 0, 0, 1L);
        }
        long before = made();
        for (int i = 0; i < 100; i++) {
            yard.tick(10);
            yard.commit();
        }
        long made = made() - before;
        Check.due("room: eight thousand events, all committed", yard.done() > 8000 && yard.isOver(), true);
        Check.due("room: those committed are used again, made " + made, made <= FEW_BYTES, true);
    }

    /** Rows are used again: a run of all calls, with faults and ways of all lengths, fits in one small room. */
    private static void littleIsMade() {
        Random random = new Random(7);
        long before = made();
        TimewarpYard yard = Yards.apart(4, 9);
        for (int i = 0; i < 16; i++) {
            yard.rule(i / 4, i % 4, "+-*=?".charAt(i % 5), random.nextInt(4), 1, random.nextInt(4));
            yard.delay(i / 4, i % 4, 1 + random.nextInt(20));
        }
        for (int i = 0; i < 40; i++) {
            yard.message(i % 4, i % 3, i % 4, i);
        }
        for (int i = 0; i < 400; i++) {
            if (i % 8 == 0) {
                yard.fault(random.nextInt(4));
            } else {
                yard.tick(100);
            }
        }
        Check.due("room: over", yard.isTrue(), true);
        long made = made() - before;
        Check.due("room: at most " + MOST_BYTES + " bytes, made " + made, made <= MOST_BYTES, true);
        Check.due("room: much was done, " + yard.done(), yard.done() > 60_000, true);
    }
}
