/** Promises 1 to 16, 34 and 35: what is told, what that answers and refuses, and what it does. */
final class TellingTests {
    private static final Class<IndexOutOfBoundsException> INDEX = IndexOutOfBoundsException.class;
    private static final Class<IllegalArgumentException> ARGUMENT = IllegalArgumentException.class;
    private static final Class<IllegalStateException> STATE = IllegalStateException.class;
    private static final Class<UnsupportedOperationException> UNSUPPORTED = UnsupportedOperationException.class;

    private TellingTests() {
    }

    static void runAll() {
        promise1();
        promise2();
        promise3();
        promise4();
        promise4Ways();
        promise5();
        promise5Refusals();
        promise5Works();
        promise6();
        promise7();
        promise8();
        promise8Saves();
        promise9();
        promise9Order();
        promise10();
        promise11();
        promise12();
        promise13();
        promise14();
        promise15();
        promise16();
        promise34();
        promise34Delays();
        promise35();
        promise35Delays();
    }

    private static void promise1() {
        TimewarpYard yard = new TimewarpYard();
        Check.due("P1 now", yard.now(), 0);
        Check.due("P1 bound", yard.bound(), -1);
        Check.due("P1 done", yard.done(), 0);
        Check.due("P1 undone", yard.undone(), 0);
        Check.due("P1 silent", yard.silent(), 0);
        Check.due("P1 antis", yard.antis(), 0);
        Check.due("P1 printed", yard.printed(), 0);
        Check.due("P1 flying", yard.flying(false), 0);
        Check.due("P1 flying back", yard.flying(true), 0);
        Check.due("P1 isOver", yard.isOver(), true);
        Check.due("P1 isTrue", yard.isTrue(), true);
        Check.due("P1 checksum", yard.checksum(), 31 * 31 * 7);
        Check.due("P1 tick", yard.tick(5), 0);
        Check.due("P1 commit", yard.commit(), 0);
        Check.dueThrow("P1 no machine", INDEX, () -> yard.process(0));
        Check.dueThrow("P1 no process", INDEX, () -> yard.state(0));
        Check.due("P1 window", yard.window(200), 200);
        Check.due("P1 horizon", yard.horizon(200), 200);
    }

    private static void promise2() {
        TimewarpYard yard = new TimewarpYard();
        Check.dueThrow("P2 speed 0", ARGUMENT, () -> yard.machine(0));
        Check.dueThrow("P2 speed 10", ARGUMENT, () -> yard.machine(10));
        Check.dueThrow("P2 speed -1", ARGUMENT, () -> yard.machine(-1));
        Check.due("P2 first", yard.machine(1), 0);
        Check.due("P2 second", yard.machine(9), 1);
        Check.due("P2 third", yard.machine(5), 2);
        Check.due("P2 fourth", yard.machine(5), 3);
        Check.dueThrow("P2 fifth", STATE, () -> yard.machine(5));
        Check.dueThrow("P2 fifth of no speed", ARGUMENT, () -> yard.machine(0));
        Check.due("P2 bold", yard.cautious(3, false), false);
        Check.due("P2 not lazy", yard.lazy(3, false), false);
        Check.due("P2 room", yard.room(3, 999), 999);
        TimewarpYard late = Yards.alone(2, 10, 20, 30, 40, 50);
        Check.due("P2 speed 2", late.tick(1), 2);
        Check.due("P2 speed 2 again", late.tick(2), 3);
        Check.due("P2 behind a message", late.machine(3), 1);
    }

    private static void promise3() {
        TimewarpYard yard = Yards.machines(1, 1);
        Check.dueThrow("P3 machine -1", INDEX, () -> yard.process(-1));
        Check.dueThrow("P3 machine 2", INDEX, () -> yard.process(2));
        for (int i = 0; i < 8; i++) {
            Check.due("P3 number", yard.process(i % 2), i);
        }
        Check.dueThrow("P3 ninth", STATE, () -> yard.process(0));
        Check.dueThrow("P3 ninth on no machine", INDEX, () -> yard.process(2));
        Check.due("P3 state", yard.state(7), 0);
        Check.due("P3 saved", yard.saved(7), 1);
        yard.message(0, 0, 0, 0L);
        Check.dueThrow("P3 told ahead of full", UNSUPPORTED, () -> yard.process(0));
        Check.dueThrow("P3 no machine ahead of told", INDEX, () -> yard.process(-1));
    }

    private static void promise4() {
        TimewarpYard yard = Yards.machines(1, 1);
        Check.dueThrow("P4 from -1", INDEX, () -> yard.delay(-1, 0, 1));
        Check.dueThrow("P4 from 2", INDEX, () -> yard.delay(2, 0, 1));
        Check.dueThrow("P4 to -1", INDEX, () -> yard.delay(0, -1, 1));
        Check.dueThrow("P4 to 2", INDEX, () -> yard.delay(0, 2, 21));
        Check.dueThrow("P4 0 ticks", ARGUMENT, () -> yard.delay(0, 1, 0));
        Check.dueThrow("P4 21 ticks", ARGUMENT, () -> yard.delay(0, 1, 21));
        Check.due("P4 at first", yard.delay(0, 1, 20), 1);
        Check.due("P4 then", yard.delay(0, 1, 2), 20);
        Check.due("P4 the other way", yard.delay(1, 0, 3), 1);
        Check.due("P4 on one", yard.delay(1, 1, 4), 1);
        Check.due("P4 kept apart", yard.delay(0, 1, 5), 2);
        Check.due("P4 on the other", yard.delay(0, 0, 5), 1);
        yard.machine(1);
        Check.due("P4 a machine that came later", yard.delay(0, 2, 5), 1);
        Check.due("P4 from that", yard.delay(2, 1, 5), 1);
    }

    private static void promise4Ways() {
        TimewarpYard yard = Yards.apart(2, 9);
        yard.delay(0, 1, 20);
        yard.rule(0, 0, '+', 1, 10, 0);
        yard.message(0, 10, 0, 7L);
        yard.tick(1);
        yard.delay(0, 1, 2);
        Check.due("P4 not yet due", yard.tick(19), 0);
        Check.due("P4 due as told when it was sent", yard.tick(1), 1);
        yard.message(0, 30, 0, 7L);
        yard.tick(1);
        Check.due("P4 from now on, not yet", yard.tick(1), 0);
        Check.due("P4 from now on", yard.tick(1), 1);
    }

    private static void promise5() {
        TimewarpYard yard = Yards.apart(2, 1);
        Check.due("P5 at first", yard.rule(0, 0, '-', -1, 0, 0), '+');
        Check.due("P5 then", yard.rule(0, 0, '*', 1, 1, 0), '-');
        Check.due("P5 then", yard.rule(0, 0, '=', 0, 99, 3), '*');
        Check.due("P5 then", yard.rule(0, 0, '?', -1, 1000, -5), '=');
        Check.due("P5 then", yard.rule(0, 0, '+', -1, -1, 4), '?');
        Check.due("P5 another kind", yard.rule(0, 3, '-', -1, 0, 0), '+');
        Check.due("P5 another process", yard.rule(1, 3, '-', -1, 0, 0), '+');
    }

    private static void promise5Refusals() {
        TimewarpYard yard = Yards.apart(2, 1);
        Check.dueThrow("P5 process -1", INDEX, () -> yard.rule(-1, 0, '+', -1, 1, 0));
        Check.dueThrow("P5 process 2", INDEX, () -> yard.rule(2, 9, 'x', -1, 1, 0));
        Check.dueThrow("P5 target -2", INDEX, () -> yard.rule(0, 0, '+', -2, 1, 0));
        Check.dueThrow("P5 target 2", INDEX, () -> yard.rule(0, 9, 'x', 2, 1, 0));
        Check.dueThrow("P5 kind -1", ARGUMENT, () -> yard.rule(0, -1, '+', -1, 1, 0));
        Check.dueThrow("P5 kind 4", ARGUMENT, () -> yard.rule(0, 4, '+', -1, 1, 0));
        Check.dueThrow("P5 work /", ARGUMENT, () -> yard.rule(0, 0, '/', -1, 1, 0));
        Check.dueThrow("P5 after 0", ARGUMENT, () -> yard.rule(0, 0, '+', 1, 0, 0));
        Check.dueThrow("P5 after 100", ARGUMENT, () -> yard.rule(0, 0, '+', 1, 100, 0));
        Check.dueThrow("P5 next -1", ARGUMENT, () -> yard.rule(0, 0, '+', 1, 1, -1));
        Check.dueThrow("P5 next 4", ARGUMENT, () -> yard.rule(0, 0, '+', 1, 1, 4));
        Check.due("P5 nothing changed", yard.rule(0, 0, '=', -1, 0, 0), '+');
        yard.message(0, 1, 0, 5L);
        Check.dueThrow("P5 told", UNSUPPORTED, () -> yard.rule(0, 0, '+', -1, 1, 0));
        Check.dueThrow("P5 no kind ahead of told", ARGUMENT, () -> yard.rule(0, 4, '+', -1, 1, 0));
        Check.dueThrow("P5 no target ahead of told", INDEX, () -> yard.rule(0, 0, '+', 5, 1, 0));
        yard.tick(1);
        Check.due("P5 none sent without a target", yard.flying(false), 0);
    }

    private static void promise5Works() {
        TimewarpYard yard = Yards.apart(2, 9);
        yard.rule(0, 1, '-', -1, 0, 0);
        yard.rule(0, 2, '*', -1, 0, 0);
        yard.rule(0, 3, '=', 1, 4, 3);
        yard.rule(1, 3, '?', 0, 5, 1);
        yard.message(0, 1, 0, Long.MAX_VALUE);
        yard.message(0, 2, 0, 1L);
        yard.tick(1);
        Check.due("P5 + goes round", yard.state(0), Long.MIN_VALUE);
        yard.message(0, 3, 1, 1L);
        yard.tick(1);
        Check.due("P5 - goes round", yard.state(0), Long.MAX_VALUE);
        yard.message(0, 4, 2, 33L);
        yard.tick(1);
        Check.due("P5 * goes round", yard.state(0), 31 * Long.MAX_VALUE + 33);
        yard.message(0, 5, 3, -9L);
        Check.due("P5 runs", yard.tick(1), 1);
        Check.due("P5 =", yard.state(0), -9);
        Check.due("P5 sent so many later", yard.bound(), 9);
        yard.tick(1);
        long lot = 7920L * 48271 % 2147483647 % 100;
        Check.due("P5 a lot of the second process", yard.state(1), lot);
        Check.due("P5 its message", yard.bound(), 14);
        yard.tick(1);
        Check.due("P5 the state then as value, its kind", yard.state(0), -9 - lot);
        Check.due("P5 that kind sends none", yard.isOver(), true);
    }

    private static void promise6() {
        TimewarpYard yard = Yards.apart(1, 9);
        Check.dueThrow("P6 process 1", INDEX, () -> yard.prints(1, 4, true));
        Check.dueThrow("P6 process -1", INDEX, () -> yard.prints(-1, 0, true));
        Check.dueThrow("P6 kind 4", ARGUMENT, () -> yard.prints(0, 4, true));
        Check.dueThrow("P6 kind -1", ARGUMENT, () -> yard.prints(0, -1, true));
        Check.due("P6 at first", yard.prints(0, 1, true), false);
        Check.due("P6 then", yard.prints(0, 1, true), true);
        Check.due("P6 another kind", yard.prints(0, 2, true), false);
        Check.due("P6 no more", yard.prints(0, 2, false), true);
        yard.message(0, 1, 0, 1L);
        yard.message(0, 2, 1, 2L);
        yard.message(0, 3, 2, 4L);
        Check.dueThrow("P6 told", UNSUPPORTED, () -> yard.prints(0, 1, false));
        Check.dueThrow("P6 no kind ahead of told", ARGUMENT, () -> yard.prints(0, 4, false));
        yard.tick(1);
        Check.due("P6 told only then", yard.printed(), 0);
        yard.commit();
        Check.due("P6 one kind prints", yard.printed(), 1);
        Check.due("P6 the state then", yard.print(0), 3);
    }

    private static void promise7() {
        TimewarpYard yard = Yards.apart(1, 9);
        Check.dueThrow("P7 0", ARGUMENT, () -> yard.horizon(0));
        Check.dueThrow("P7 201", ARGUMENT, () -> yard.horizon(201));
        Check.due("P7 at first", yard.horizon(1), 200);
        Check.due("P7 then", yard.horizon(30), 1);
        yard.rule(0, 0, '+', 0, 10, 0);
        Check.dueThrow("P7 a message behind it", ARGUMENT, () -> yard.message(0, 31, 0, 1L));
        yard.message(0, 10, 0, 1L);
        Check.dueThrow("P7 told", UNSUPPORTED, () -> yard.horizon(40));
        Check.dueThrow("P7 no horizon ahead of told", ARGUMENT, () -> yard.horizon(0));
        Check.due("P7 runs to the horizon itself", yard.tick(10), 3);
        Check.due("P7 clock", yard.clock(0), 30);
        Check.due("P7 over", yard.isOver(), true);
    }

    private static void promise8() {
        TimewarpYard yard = Yards.apart(1, 9);
        Check.dueThrow("P8 process 1", INDEX, () -> yard.saves(1, 0));
        Check.dueThrow("P8 process -1", INDEX, () -> yard.saves(-1, 1));
        Check.dueThrow("P8 0", ARGUMENT, () -> yard.saves(0, 0));
        Check.dueThrow("P8 21", ARGUMENT, () -> yard.saves(0, 21));
        Check.due("P8 at first", yard.saves(0, 20), 1);
        Check.due("P8 then", yard.saves(0, 3), 20);
    }

    private static void promise8Saves() {
        TimewarpYard yard = Yards.alone(9, 10, 20, 30, 40, 50);
        yard.saves(0, 3);
        yard.tick(1);
        Check.due("P8 behind the third", yard.saved(0), 2);
        yard.message(0, 25, 0, 1L);
        yard.tick(1);
        Check.due("P8 two run silently", yard.silent(), 2);
        Check.due("P8 saved anew behind the third and the sixth", yard.saved(0), 3);
        yard.message(0, 35, 0, 1L);
        yard.tick(1);
        Check.due("P8 one more runs silently", yard.silent(), 3);
        Check.due("P8 the last one gone, and saved anew", yard.saved(0), 3);
        yard.saves(0, 1);
        Check.due("P8 not at once", yard.saved(0), 3);
        yard.message(0, 60, 0, 1L);
        yard.tick(1);
        Check.due("P8 from now on", yard.saved(0), 4);
        Check.due("P8 state", yard.state(0), 8);
    }

    private static void promise9() {
        TimewarpYard yard = Yards.apart(2, 9);
        Check.dueThrow("P9 process 2", INDEX, () -> yard.message(2, 500, 0, 1L));
        Check.dueThrow("P9 process -1", INDEX, () -> yard.message(-1, 0, 0, 1L));
        Check.dueThrow("P9 time -1", ARGUMENT, () -> yard.message(0, -1, 0, 1L));
        Check.dueThrow("P9 time 201", ARGUMENT, () -> yard.message(0, 201, 0, 1L));
        Check.dueThrow("P9 kind -1", ARGUMENT, () -> yard.message(0, 0, -1, 1L));
        Check.dueThrow("P9 kind 4", ARGUMENT, () -> yard.message(0, 0, 4, 1L));
        Check.due("P9 first", yard.message(0, 0, 0, Long.MIN_VALUE), 0);
        Check.due("P9 second", yard.message(1, 199, 3, Long.MAX_VALUE), 1);
        Check.due("P9 under way", yard.flying(false), 2);
        Check.due("P9 due in the next tick", yard.tick(1), 2);
        Check.due("P9 state", yard.state(1), Long.MAX_VALUE);
        yard.commit();
        Check.dueThrow("P9 below the bound", UNSUPPORTED, () -> yard.message(0, 199, 0, 1L));
        Check.dueThrow("P9 no kind ahead of below", ARGUMENT, () -> yard.message(0, 199, 4, 1L));
        for (int i = 2; i < 40; i++) {
            Check.due("P9 at the bound", yard.message(0, 200, 0, 1L), i);
        }
        Check.dueThrow("P9 forty told", STATE, () -> yard.message(0, 200, 0, 1L));
        Check.dueThrow("P9 below ahead of forty", UNSUPPORTED, () -> yard.message(0, 0, 0, 1L));
    }

    /** Of one time, by senders, then counts: the lesser first, whatever came first. */
    private static void promise9Order() {
        TimewarpYard yard = Yards.apart(2, 9);
        yard.rule(0, 0, '*', 1, 10, 0);
        yard.rule(1, 0, '*', -1, 0, 0);
        yard.rule(1, 1, '*', -1, 0, 0);
        yard.message(0, 10, 0, 1L);
        yard.tick(2);
        Check.due("P9 the process's", yard.state(1), 1);
        yard.message(1, 20, 1, 2L);
        yard.message(1, 20, 0, 3L);
        yard.tick(1);
        Check.due("P9 that from outside is ahead", yard.backs(1), 1);
        Check.due("P9 by counts, not by kinds", yard.state(1), (2 * 31 + 3) * 31 + 1);
        Check.due("P9 as by one queue", yard.plain(1), yard.state(1));
    }

    private static void promise10() {
        TimewarpYard yard = Yards.alone(2, 0, 1, 2, 3, 4);
        Check.dueThrow("P10 0", ARGUMENT, () -> yard.tick(0));
        Check.dueThrow("P10 101", ARGUMENT, () -> yard.tick(101));
        Check.dueThrow("P10 -1", ARGUMENT, () -> yard.tick(-1));
        Check.due("P10 none passed", yard.now(), 0);
        Check.due("P10 one", yard.tick(1), 2);
        Check.due("P10 a hundred", yard.tick(100), 3);
        Check.due("P10 none left", yard.tick(1), 0);
    }

    private static void promise11() {
        TimewarpYard yard = new TimewarpYard();
        yard.tick(100);
        yard.tick(3);
        Check.due("P11 now", yard.now(), 103);
    }

    /** What takes back holds the bound too. */
    private static void promise12() {
        TimewarpYard yard = Yards.machines(1, 9, 9);
        for (int i = 0; i < 3; i++) {
            yard.process(i);
        }
        yard.rule(0, 0, '+', 1, 10, 0);
        yard.rule(1, 0, '+', 2, 10, 0);
        yard.delay(1, 2, 10);
        yard.message(0, 10, 0, 5L);
        Check.due("P12 under way", yard.bound(), 10);
        yard.tick(2);
        Check.due("P12 the last one's", yard.bound(), 30);
        yard.tick(10);
        Check.due("P12 all run", yard.bound(), -1);
        yard.message(0, 5, 1, 1L);
        yard.tick(1);
        Check.due("P12 one waits", yard.bound(), 10);
        yard.tick(1);
        yard.delay(1, 2, 1);
        yard.tick(2);
        Check.due("P12 no message under way", yard.flying(false), 0);
        Check.due("P12 one takes back", yard.flying(true), 1);
        Check.due("P12 none waits", yard.waiting(2), 0);
        Check.due("P12 not over", yard.isOver(), false);
        Check.due("P12 its time", yard.bound(), 30);
        Check.due("P12 commits what is below", yard.commit(), 3);
        Check.due("P12 true", yard.isTrue(), true);
        yard.tick(10);
        Check.due("P12 over", yard.isOver(), true);
        Check.due("P12 state", yard.state(2), 6);
        Check.due("P12 true when over", yard.isTrue(), true);
    }

    private static void promise13() {
        TimewarpYard yard = Yards.apart(2, 9);
        Check.dueThrow("P13 -1", ARGUMENT, () -> yard.window(-1));
        Check.dueThrow("P13 201", ARGUMENT, () -> yard.window(201));
        Check.due("P13 at first", yard.window(0), 200);
        Check.due("P13 then", yard.window(5), 0);
        yard.message(1, 10, 0, 1L);
        yard.message(0, 15, 0, 1L);
        yard.message(0, 16, 0, 1L);
        Check.due("P13 no more than the window above", yard.tick(1), 2);
        Check.due("P13 waits", yard.waiting(0), 1);
        Check.due("P13 as the bound rises", yard.tick(1), 1);
    }

    private static void promise14() {
        TimewarpYard yard = Yards.machines(9, 9);
        yard.process(0);
        yard.process(0);
        yard.process(1);
        Check.dueThrow("P14 machine 2", INDEX, () -> yard.room(2, 0));
        Check.dueThrow("P14 machine -1", INDEX, () -> yard.room(-1, 1));
        Check.dueThrow("P14 0", ARGUMENT, () -> yard.room(0, 0));
        Check.dueThrow("P14 1000", ARGUMENT, () -> yard.room(0, 1000));
        Check.due("P14 at first", yard.room(0, 1), 999);
        Check.due("P14 then", yard.room(0, 2), 1);
        yard.message(0, 10, 0, 1L);
        yard.message(1, 20, 0, 1L);
        yard.message(0, 30, 0, 1L);
        yard.message(2, 15, 0, 1L);
        Check.due("P14 two of its processes, one elsewhere", yard.tick(1), 3);
        Check.due("P14 no room for the third", yard.waiting(0), 1);
        Check.due("P14 but as it is safe", yard.tick(1), 1);
        yard.message(0, 40, 0, 1L);
        yard.message(2, 40, 0, 1L);
        Check.due("P14 safe beside one of its time", yard.tick(1), 2);
    }

    private static void promise15() {
        TimewarpYard yard = Yards.apart(2, 9);
        Check.dueThrow("P15 machine 2", INDEX, () -> yard.cautious(2, true));
        Check.dueThrow("P15 machine -1", INDEX, () -> yard.cautious(-1, true));
        Check.due("P15 at first", yard.cautious(1, true), false);
        Check.due("P15 then", yard.cautious(1, true), true);
        yard.horizon(12);
        yard.rule(0, 0, '+', 0, 5, 0);
        yard.delay(0, 0, 5);
        yard.message(0, 5, 0, 1L);
        yard.message(1, 10, 0, 1L);
        Check.due("P15 one of its time is under way", yard.tick(1), 1);
        Check.due("P15 still", yard.tick(4), 0);
        Check.due("P15 nothing is under way", yard.tick(1), 2);
        TimewarpYard other = Yards.apart(2, 9);
        other.cautious(0, true);
        other.message(0, 10, 0, 1L);
        other.message(1, 9, 0, 1L);
        Check.due("P15 an earlier one waits", other.tick(1), 1);
        Check.due("P15 no more", other.tick(1), 1);
        other.message(0, 20, 0, 1L);
        other.message(1, 20, 0, 1L);
        Check.due("P15 one of its time may wait", other.tick(1), 2);
        other.cautious(0, false);
        other.message(0, 30, 0, 1L);
        other.message(1, 29, 0, 1L);
        Check.due("P15 bold again", other.tick(1), 2);
    }

    private static void promise16() {
        TimewarpYard yard = Yards.apart(1, 9);
        Check.dueThrow("P16 machine 1", INDEX, () -> yard.lazy(1, true));
        Check.dueThrow("P16 machine -1", INDEX, () -> yard.lazy(-1, true));
        Check.due("P16 at first", yard.lazy(0, true), false);
        Check.due("P16 then", yard.lazy(0, false), true);
        Check.due("P16 at last", yard.lazy(0, false), false);
    }

    private static void promise34() {
        TimewarpYard yard = Yards.machines(1, 3);
        yard.process(0);
        Check.dueThrow("P34 process 1", INDEX, () -> yard.move(1, 0));
        Check.dueThrow("P34 process -1", INDEX, () -> yard.move(-1, 0));
        Check.dueThrow("P34 machine 2", INDEX, () -> yard.move(0, 2));
        Check.dueThrow("P34 machine -1", INDEX, () -> yard.move(0, -1));
        Check.due("P34 to its own", yard.move(0, 0), 0);
        for (int i = 0; i < 6; i++) {
            yard.message(0, i, 0, 1L);
        }
        Check.due("P34 speed 1", yard.tick(1), 1);
        Check.due("P34 from the first", yard.move(0, 1), 0);
        Check.due("P34 with all that waits", yard.waiting(0), 5);
        Check.due("P34 and is kept", yard.kept(0), 1);
        Check.due("P34 speed 3", yard.tick(1), 3);
        Check.due("P34 from the second", yard.move(0, 0), 1);
        Check.due("P34 speed 1 again", yard.tick(1), 1);
        Check.due("P34 a fault of the other", yard.fault(1), 0);
        Check.due("P34 a fault of its own", yard.fault(0), 5);
    }

    /** What counts is where both are as it is sent. */
    private static void promise34Delays() {
        TimewarpYard yard = Yards.apart(3, 9);
        yard.rule(0, 0, '+', 1, 10, 0);
        yard.delay(0, 1, 3);
        yard.delay(0, 2, 9);
        yard.delay(2, 1, 6);
        yard.message(0, 10, 0, 1L);
        yard.tick(1);
        yard.move(1, 2);
        Check.due("P34 under way as sent, not yet", yard.tick(2), 0);
        Check.due("P34 under way as sent", yard.tick(1), 1);
        yard.message(0, 30, 0, 1L);
        yard.tick(1);
        Check.due("P34 to its new machine, not yet", yard.tick(8), 0);
        Check.due("P34 to its new machine", yard.tick(1), 1);
        yard.move(1, 1);
        yard.move(0, 2);
        yard.message(0, 50, 0, 1L);
        yard.tick(1);
        Check.due("P34 from its new machine, not yet", yard.tick(5), 0);
        Check.due("P34 from its new machine", yard.tick(1), 1);
    }

    private static void promise35() {
        TimewarpYard yard = Yards.machines(9, 9);
        yard.process(0);
        yard.process(1);
        yard.process(0);
        Check.dueThrow("P35 machine 2", INDEX, () -> yard.fault(2));
        Check.dueThrow("P35 machine -1", INDEX, () -> yard.fault(-1));
        Check.due("P35 nothing kept", yard.fault(0), 0);
        for (int i = 0; i < 3; i++) {
            yard.message(i, 10, 0, 5L);
            yard.message(i, 20, 0, 6L);
        }
        yard.tick(1);
        yard.message(0, 30, 0, 7L);
        Check.due("P35 all of its processes'", yard.fault(0), 4);
        Check.due("P35 wait", yard.waiting(0), 2);
        Check.due("P35 none kept", yard.kept(2), 0);
        Check.due("P35 state", yard.state(2), 0);
        Check.due("P35 clock", yard.clock(2), -1);
        Check.due("P35 the other one's", yard.kept(1), 2);
        Check.due("P35 undone", yard.undone(), 4);
        Check.due("P35 backs", yard.backs(0), 1);
        Check.due("P35 no back of the other one", yard.backs(1), 0);
        Check.due("P35 again", yard.fault(0), 0);
        Check.due("P35 no back without an event", yard.backs(0), 1);
        Check.due("P35 run again", yard.tick(1), 5);
        Check.due("P35 state again", yard.state(0), 18);
    }

    /** Lazy or not, taken back at once, as if in the tick that passed last. */
    private static void promise35Delays() {
        TimewarpYard yard = Yards.apart(2, 9);
        yard.rule(0, 0, '=', 1, 10, 0);
        yard.lazy(0, true);
        yard.delay(0, 1, 3);
        yard.message(0, 10, 0, 5L);
        yard.tick(4);
        Check.due("P35 come and run", yard.state(1), 5);
        Check.due("P35 one waits again", yard.fault(0), 1);
        Check.due("P35 nothing is remembered", yard.remembered(0), 0);
        Check.due("P35 it takes back", yard.flying(true), 1);
        Check.due("P35 counted", yard.antis(), 1);
        yard.tick(2);
        Check.due("P35 not yet", yard.state(1), 5);
        yard.tick(1);
        Check.due("P35 three ticks behind the last", yard.state(1), 0);
        Check.due("P35 sent anew a tick later", yard.tick(1), 1);
        Check.due("P35 state", yard.state(1), 5);
        Check.due("P35 over", yard.isOver(), true);
    }
}
