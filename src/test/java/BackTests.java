/** The edges of 'Going back' and 'Moves and faults': how far, what is saved, what is taken back, and what stays. */
final class BackTests {
    private BackTests() {
    }

    static void runAll() {
        behindAll();
        beforeEachOne();
        atTheTimeOfOne();
        silentFromTheLastSaved();
        savedBehindItAreGone();
        savedAgainAsTheyRun();
        silentSendsNothing();
        silentCountGoesOn();
        countsOnceEach();
        takesOneThatWaits();
        takesOneThatWaitsFirst();
        takesEachOneKept();
        takesTheWholeAlone();
        staysForOneLikeIt();
        twoStay();
        takenBackInOrder();
        rememberedByThoseThatSent();
        lazyAsItComes();
        sameButForItsCount();
        sameButForItsValue();
        rememberedStaysWithoutLaziness();
        rememberedIsTakenBackWithoutLaziness();
        takenAwayWhereItIsLazy();
        rememberedStaysInAFault();
        rememberedMovesAlong();
        movesWithAll();
        faultGoesToWhatWasCommitted();
        faultOfOneMachine();
        faultByProcesses();
        faultLeavesWhatWaits();
    }

    /** Process 1 ran events of the times 50, 51 and so on, and runs no more: a slow message keeps the bound at 5. */
    private static TimewarpYard stopped(int kept, int each) {
        TimewarpYard yard = Yards.apart(3, 9);
        yard.rule(0, 3, '+', 0, 1, 3);
        yard.rule(1, 0, '?', -1, 1, 0);
        yard.rule(1, 1, '*', 2, 10, 0);
        yard.delay(0, 0, 20);
        yard.message(0, 4, 3, 0L);
        yard.saves(1, each);
        for (int i = 0; i < kept; i++) {
            yard.message(1, 50 + 2 * i, i % 2, i);
        }
        yard.tick((kept + 8) / 9 + 1);
        yard.window(0);
        return yard;
    }

    private static void behindAll() {
        TimewarpYard yard = stopped(9, 1);
        yard.message(1, 67, 0, 1L);
        yard.tick(1);
        Check.due("back: behind all, none", yard.backs(1), 0);
        Check.due("back: behind all, undone", yard.undone(), 0);
        Check.due("back: behind all, it alone waits", yard.waiting(1), 1);
        Check.due("back: behind all, kept", yard.kept(1), 9);
    }

    private static void beforeEachOne() {
        TimewarpYard alike = stopped(9, 1);
        for (int i = 0; i < 9; i++) {
            TimewarpYard yard = stopped(9, 1);
            yard.message(1, 49 + 2 * i, 0, 1L);
            yard.tick(1);
            Check.due("back: so many are still kept", yard.kept(1), i);
            Check.due("back: those behind wait, and it", yard.waiting(1), 9 - i + 1);
            Check.due("back: those behind are undone", yard.undone(), 9 - i);
            Check.due("back: one back", yard.backs(1), 1);
            Check.due("back: the state ahead of them", yard.state(1), alike.stateAt(1, 50 + 2 * i));
            Check.due("back: the clock ahead of them", yard.clock(1), i == 0 ? -1 : 48 + 2 * i);
            Check.due("back: each that sent is taken back", yard.antis(), (9 - i) / 2);
            yard.window(200);
            yard.tick(100);
            yard.tick(100);
            yard.fault(0);
            Check.due("back: and it runs on", yard.state(1), yard.plain(1));
        }
    }

    /** Of the time of a kept one: by its greater count it is behind that. */
    private static void atTheTimeOfOne() {
        TimewarpYard yard = stopped(9, 1);
        yard.message(1, 66, 3, Long.MIN_VALUE);
        yard.tick(1);
        Check.due("back: at the time of the last, none", yard.backs(1), 0);
        yard.message(1, 64, 3, Long.MIN_VALUE);
        yard.tick(1);
        Check.due("back: at the time of the last but one, one event", yard.undone(), 1);
        Check.due("back: the one of its time is kept", yard.clock(1), 64);
    }

    private static void silentFromTheLastSaved() {
        for (int each : new int[] {1, 4, 20}) {
            for (int i = 0; i < 9; i++) {
                TimewarpYard yard = stopped(9, each);
                int done = yard.done();
                yard.message(1, 49 + 2 * i, 0, 1L);
                yard.tick(1);
                Check.due("back: silently from the last saved, each " + each + ", " + i, yard.silent(), i % each);
                Check.due("back: saved ahead of that, each " + each + ", " + i, yard.saved(1), 1 + i / each);
                Check.due("P26 silent ones are not done", yard.done(), done);
            }
        }
    }

    private static void savedBehindItAreGone() {
        TimewarpYard yard = stopped(9, 3);
        Check.due("back: saved behind three, six and nine", yard.saved(1), 4);
        yard.message(1, 61, 0, 1L);
        yard.tick(1);
        Check.due("back: that behind six is the last one", yard.saved(1), 3);
        Check.due("back: and needs nothing silently", yard.silent(), 0);
        yard.message(1, 59, 0, 1L);
        yard.tick(1);
        Check.due("back: that behind six is gone", yard.saved(1), 2);
        Check.due("back: two run silently", yard.silent(), 2);
        yard.saves(1, 1);
        yard.message(1, 57, 0, 1L);
        yard.tick(1);
        Check.due("back: nothing is saved silently", yard.saved(1), 2);
        Check.due("back: one more runs silently", yard.silent(), 3);
    }

    /** Those that were saved before are saved again as they run again, by what is behind then. */
    private static void savedAgainAsTheyRun() {
        for (int each = 1; each <= 4; each++) {
            TimewarpYard yard = Yards.alone(9, 10, 20, 30, 40, 50, 60);
            yard.saves(0, each);
            yard.tick(1);
            Check.due("terms: saved, each " + each, yard.saved(0), 1 + 6 / each);
            yard.fault(0);
            Check.due("back: all gone but that ahead, each " + each, yard.saved(0), 1);
            yard.tick(1);
            Check.due("terms: saved as they run again, each " + each, yard.saved(0), 1 + 6 / each);
            yard.message(0, 5, 0, 1L);
            yard.message(0, 35, 0, 1L);
            yard.tick(1);
            Check.due("terms: and a third time, each " + each, yard.saved(0), 1 + 8 / each);
        }
    }

    private static void silentSendsNothing() {
        TimewarpYard yard = stopped(9, 20);
        int flying = yard.flying(false);
        yard.message(1, 65, 0, 1L);
        yard.tick(1);
        Check.due("back: eight run silently, four of which sent", yard.silent(), 8);
        Check.due("back: none is sent again", yard.flying(false), flying);
        Check.due("back: none is taken back", yard.antis(), 0);
    }

    /** The third one is sent again as it was, so its count is what it was: lazy, it need not go. */
    private static void silentCountGoesOn() {
        TimewarpYard yard = Yards.apart(2, 9);
        yard.rule(0, 0, '=', 1, 5, 1);
        yard.rule(0, 1, '+', -1, 1, 0);
        yard.saves(0, 20);
        yard.lazy(0, true);
        for (int time = 10; time <= 40; time += 10) {
            yard.message(0, time, 0, time);
        }
        yard.tick(2);
        yard.message(0, 25, 1, 1L);
        yard.tick(1);
        Check.due("back: two run silently", yard.silent(), 2);
        Check.due("back: those behind sent the same", yard.antis() + yard.flying(false), 0);
        yard.lazy(0, false);
        yard.message(0, 26, 1, 1L);
        yard.tick(2);
        Check.due("back: what was not sent anew is taken back", yard.antis(), 2);
        Check.due("back: and is found", yard.strays(1) + yard.waiting(1), 0);
        Check.due("back: true", yard.isOver() && yard.isTrue(), true);
    }

    private static void countsOnceEach() {
        TimewarpYard yard = stopped(5, 1);
        for (int i = 0; i < 5; i++) {
            yard.message(1, 49 + 2 * i, 0, 1L);
        }
        yard.tick(1);
        Check.due("P25 the first took all: one back", yard.backs(1), 1);
        Check.due("P27 five", yard.undone(), 5);
        yard = stopped(5, 1);
        for (int i = 4; i >= 0; i--) {
            yard.message(1, 49 + 2 * i, 0, 1L);
        }
        yard.tick(1);
        Check.due("P25 each took one: five backs", yard.backs(1), 5);
        Check.due("P27 five again", yard.undone(), 5);
        Check.due("P25 of the other none", yard.backs(0) + yard.backs(2), 0);
    }

    /** Process 0 sends to 1, which runs no more as a slow one of 2's keeps the bound; then 0 has a fault. */
    private static TimewarpYard sentAndHeld(int... times) {
        TimewarpYard yard = Yards.apart(3, 9);
        yard.rule(0, 0, '=', 1, 1, 0);
        yard.rule(2, 0, '+', 2, 1, 0);
        yard.delay(2, 2, 20);
        yard.message(2, 3, 0, 0L);
        for (int time : times) {
            yard.message(0, time - 1, 0, time);
        }
        yard.tick(1);
        return yard;
    }

    private static void takesOneThatWaits() {
        TimewarpYard yard = sentAndHeld(50, 60, 70);
        yard.window(0);
        yard.tick(1);
        Check.due("back: three wait", yard.waiting(1), 3);
        yard.fault(0);
        yard.tick(1);
        Check.due("back: all three are taken away", yard.waiting(1), 0);
        Check.due("P25 without a back", yard.backs(1), 0);
        Check.due("P27 they were not kept", yard.undone(), 3);
        Check.due("back: none stays", yard.strays(1), 0);
    }

    /** One like it is kept, another one waits, as there is no room: what takes back takes the one that waits. */
    private static void takesOneThatWaitsFirst() {
        TimewarpYard yard = sentAndHeld(50);
        yard.tick(1);
        yard.room(1, 1);
        yard.delay(0, 1, 5);
        yard.fault(0);
        yard.delay(0, 1, 1);
        yard.tick(2);
        Check.due("back: one is kept", yard.kept(1), 1);
        Check.due("back: one like it waits", yard.waiting(1), 1);
        yard.tick(3);
        Check.due("back: that one is gone", yard.waiting(1), 0);
        Check.due("back: the kept one is not", yard.kept(1), 1);
        Check.due("back: without a back", yard.backs(1), 0);
        Check.due("P27 the other process's alone", yard.undone(), 1);
    }

    /** A late one without a message of its own lets the events behind it be taken back: the last ones of three. */
    private static void takesEachOneKept() {
        for (int taken = 1; taken <= 3; taken++) {
            TimewarpYard yard = sentAndHeld(50, 60, 70);
            yard.tick(1);
            yard.window(0);
            Check.due("back: three kept", yard.kept(1), 3);
            yard.message(0, 78 - 10 * taken, 1, 0L);
            yard.tick(2);
            Check.due("back: taken back", yard.antis(), taken);
            Check.due("back: the process goes back once, taken " + taken, yard.backs(1), 1);
            Check.due("back: they are gone", yard.kept(1) + yard.waiting(1), 3 - taken);
            Check.due("P27 waited again, or were taken away", yard.undone(), 2 * taken);
            Check.due("back: the state ahead of them, taken " + taken, yard.state(1), new int[] {110, 50, 0}[taken - 1]);
        }
    }

    /** Of four of one time and one value, that of this sender and count goes. */
    private static void takesTheWholeAlone() {
        TimewarpYard yard = Yards.apart(3, 9);
        for (int process = 0; process < 2; process++) {
            yard.rule(process, 0, '=', 2, 10, 0);
            yard.rule(process, 1, '=', 2, 5, 0);
        }
        yard.rule(2, 1, '=', -1, 1, 0);
        for (int process = 0; process < 2; process++) {
            yard.message(process, 20, 0, 7L);
            yard.message(process, 25, 1, 7L);
        }
        yard.tick(2);
        Check.due("back: four of one time", yard.kept(2), 4);
        yard.message(1, 22, 2, 0L);
        yard.delay(1, 2, 5);
        yard.tick(1);
        yard.delay(1, 2, 1);
        yard.tick(5);
        Check.due("back: the last one came again", yard.kept(2), 4);
        Check.due("back: one back", yard.backs(2), 1);
        Check.due("P27 the last one alone here", yard.undone(), 2);
        Check.due("back: true", yard.isTrue() && yard.isOver(), true);
    }

    /** What takes back is there first; others of its time come and go their way, until one like it comes. */
    private static TimewarpYard strayed() {
        TimewarpYard yard = Yards.apart(2, 9);
        yard.rule(0, 0, '=', 1, 10, 0);
        yard.delay(0, 1, 20);
        yard.message(0, 20, 0, 7L);
        yard.tick(1);
        yard.delay(0, 1, 1);
        yard.message(0, 19, 1, 9L);
        yard.message(0, 20, 2, 9L);
        return yard;
    }

    private static void staysForOneLikeIt() {
        TimewarpYard yard = strayed();
        yard.fault(0);
        Check.due("back: it takes back, under way", yard.flying(true), 1);
        yard.tick(1);
        Check.due("back: it stays", yard.strays(1), 1);
        Check.due("P41 what stays is not under way", yard.flying(true), 0);
        long sum = 7;
        for (long part : new long[] {16, 3, 0, 0, 0, 0, 2, 1}) {
            sum = 31 * sum + part;
        }
        Check.due("P41 nor in the sum", yard.checksum(), sum);
        yard.message(1, 30, 0, 7L);
        yard.tick(1);
        Check.due("back: one of another sender is not like it", yard.kept(1), 1);
        Check.due("back: the same, sent again, goes with it", yard.strays(1), 0);
        Check.due("P12 the other is still under way", yard.bound(), 30);
        yard.tick(20);
        Check.due("back: and then is run itself", yard.kept(1), 2);
        Check.due("back: without a back", yard.backs(1), 0);
        Check.due("back: true", yard.isTrue() && yard.isOver(), true);
    }

    private static void twoStay() {
        TimewarpYard yard = Yards.apart(2, 9);
        yard.rule(0, 0, '=', 1, 10, 0);
        yard.rule(1, 0, '*', -1, 1, 0);
        yard.delay(0, 1, 20);
        yard.message(0, 20, 0, 7L);
        yard.message(0, 30, 0, 8L);
        yard.tick(1);
        yard.delay(0, 1, 1);
        yard.fault(0);
        yard.delay(0, 1, 20);
        yard.tick(1);
        Check.due("P21 two stay", yard.strays(1), 2);
        yard.tick(18);
        Check.due("P21 still", yard.strays(1), 2);
        Check.due("P38 not over", yard.isOver(), false);
        yard.tick(1);
        Check.due("P21 both went with those like them", yard.strays(1), 0);
        Check.due("P20 nothing came of that", yard.waiting(1) + yard.kept(1), 0);
        yard.tick(1);
        Check.due("P17 those sent anew", yard.state(1), 7 * 31 + 8);
    }

    /** The first that was sent is the first that is taken back: it takes all with it, in one back. */
    private static void takenBackInOrder() {
        TimewarpYard yard = sentAndHeld(50, 60, 70, 80);
        yard.tick(1);
        yard.window(0);
        yard.fault(0);
        Check.due("P29 four", yard.antis(), 4);
        yard.tick(1);
        Check.due("back: in the order in which they were sent", yard.backs(1), 1);
        Check.due("P27 four kept there", yard.undone(), 8);
    }

    /** Neither one without a target nor one for behind the horizon is remembered. */
    private static void rememberedByThoseThatSent() {
        TimewarpYard yard = Yards.apart(2, 1);
        yard.horizon(100);
        yard.rule(0, 0, '+', 1, 10, 0);
        yard.lazy(0, true);
        yard.message(0, 50, 0, 1L);
        yard.message(0, 60, 1, 1L);
        yard.message(0, 90, 0, 1L);
        yard.message(0, 91, 0, 1L);
        yard.tick(4);
        Check.due("P23 nothing while they are kept", yard.remembered(0), 0);
        yard.message(0, 10, 1, 1L);
        yard.tick(1);
        Check.due("P20 four wait", yard.waiting(0), 4);
        Check.due("P23 two sent", yard.remembered(0), 2);
        Check.due("P29 nothing is taken back", yard.antis(), 0);
        yard.tick(1);
        Check.due("P29 another one: taken back as it is run", yard.antis(), 1);
        Check.due("P23 one is left", yard.remembered(0), 1);
        yard.tick(1);
        Check.due("P23 one without a message runs", yard.remembered(0), 1);
        yard.tick(2);
        Check.due("P23 none is left", yard.remembered(0), 0);
        Check.due("P29 two were taken back", yard.antis(), 2);
    }

    /** What counts is the machine as the late one comes. */
    private static void lazyAsItComes() {
        for (int lazy = 0; lazy < 2; lazy++) {
            TimewarpYard yard = sentAndHeld(50);
            yard.lazy(0, lazy == 0);
            yard.message(0, 10, 1, 0L);
            yard.lazy(0, lazy == 1);
            yard.window(0);
            yard.tick(1);
            Check.due("P16 lazy as it comes: remembered", yard.remembered(0), lazy);
            Check.due("P16 not lazy as it comes: taken back", yard.antis(), 1 - lazy);
        }
    }

    /** A late one sends one too: what those behind it send has another count, and is another message. */
    private static void sameButForItsCount() {
        TimewarpYard yard = sentAndHeld(50, 60);
        yard.lazy(0, true);
        yard.message(0, 39, 0, 40L);
        yard.tick(1);
        Check.due("lazy: both were taken back as they ran again", yard.antis(), 2);
        yard.tick(3);
        Check.due("lazy: three are kept", yard.kept(1), 3);
        Check.due("lazy: none stays", yard.strays(1) + yard.waiting(1), 0);
        Check.due("lazy: the state", yard.state(1), 150);
    }

    private static void sameButForItsValue() {
        for (int value = 0; value < 2; value++) {
            TimewarpYard yard = Yards.apart(2, 9);
            yard.rule(0, 0, '+', 1, 10, 0);
            yard.lazy(0, true);
            yard.message(0, 20, 0, 5L);
            yard.message(0, 30, 0, -5L);
            yard.tick(2);
            yard.message(0, 10, 1, value);
            yard.tick(2);
            Check.due("lazy: taken back as it is another one", yard.antis(), 2 * value);
            Check.due("lazy: true", yard.isTrue() && yard.isOver(), true);
        }
    }

    private static void rememberedStaysWithoutLaziness() {
        for (int value = 0; value < 2; value++) {
            TimewarpYard yard = sentAndHeld(50);
            yard.lazy(0, true);
            yard.room(0, 1);
            yard.message(0, 10, 1, 0L);
            yard.tick(1);
            Check.due("P16 remembered", yard.remembered(0), 1);
            yard.lazy(0, false);
            Check.due("P16 what is remembered stays", yard.remembered(0), 1);
            yard.message(0, 11, value == 0 ? 1 : 0, 0L);
            yard.room(0, 999);
            yard.tick(1);
            Check.due("P16 and is as it was", yard.antis(), value);
            Check.due("P23 none is left", yard.remembered(0), 0);
        }
    }

    /** "As an event that waits is taken away, what is remembered with it is taken back, too": lazy by then or not. */
    private static void rememberedIsTakenBackWithoutLaziness() {
        for (int lazy = 0; lazy < 2; lazy++) {
            TimewarpYard yard = sentOn();
            yard.tick(1);
            yard.message(0, 5, 1, 1L);
            for (int time = 1; time <= 3; time++) {
                yard.message(1, time, 1, 0L);
            }
            yard.room(1, 1);
            yard.delay(0, 1, 2);
            yard.tick(1);
            Check.due("P23 remembered", yard.remembered(1), 1);
            Check.due("P29 the one for it", yard.antis(), 1);
            yard.lazy(1, lazy == 1);
            yard.tick(1);
            Check.due("P23 still remembered", yard.remembered(1), 1);
            yard.tick(1);
            Check.due("P23 taken away", yard.remembered(1), 0);
            Check.due("P29 what it sent too, lazy " + lazy, yard.antis(), 2);
            Check.due("P20 nothing waits there but what was sent anew", yard.waiting(1) + yard.kept(1), 4);
        }
    }

    /** 0 sends to 1, which is lazy and sends to 2: its first event has the time 20. */
    private static TimewarpYard sentOn() {
        TimewarpYard yard = Yards.apart(3, 9);
        yard.rule(0, 0, '+', 1, 10, 0);
        yard.rule(1, 0, '=', 2, 10, 0);
        yard.lazy(1, true);
        yard.message(0, 10, 0, 7L);
        yard.tick(2);
        return yard;
    }

    /** One that is kept is taken away: what it sent is taken back, what those behind it sent is remembered. */
    private static void takenAwayWhereItIsLazy() {
        TimewarpYard yard = sentOn();
        yard.message(1, 30, 0, 8L);
        yard.message(1, 40, 0, 9L);
        yard.tick(2);
        Check.due("lazy: three kept", yard.kept(1), 3);
        Check.due("lazy: three sent", yard.kept(2), 3);
        yard.fault(0);
        yard.window(0);
        yard.tick(1);
        Check.due("P23 two remember", yard.remembered(1), 2);
        Check.due("P20 two wait", yard.waiting(1), 2);
        Check.due("P29 the one for it, and that for what it sent", yard.antis(), 2);
        yard.tick(9);
        Check.due("P29 those behind it sent the same again", yard.antis(), 2);
        Check.due("P42 over, and as by one queue", yard.isOver() && yard.isTrue(), true);
    }

    /** "what they sent is taken back": what waits kept nothing, and remembers still. */
    private static void rememberedStaysInAFault() {
        TimewarpYard yard = sentAndHeld(50);
        yard.lazy(0, true);
        yard.room(0, 1);
        yard.message(0, 10, 0, 0L);
        yard.tick(1);
        Check.due("P35 remembered", yard.remembered(0), 1);
        Check.due("P35 the late one alone waits again", yard.fault(0), 1);
        Check.due("P35 what it sent is taken back", yard.antis(), 1);
        Check.due("P35 still remembered", yard.remembered(0), 1);
        Check.due("P35 none more than waits", yard.waiting(0), 2);
    }

    private static void rememberedMovesAlong() {
        TimewarpYard yard = sentAndHeld(50);
        yard.lazy(0, true);
        yard.room(0, 1);
        yard.message(0, 10, 1, 0L);
        yard.tick(1);
        yard.move(0, 2);
        Check.due("P34 remembered there", yard.remembered(0), 1);
        yard.tick(1);
        Check.due("P34 not sent anew there", yard.antis(), 0);
        Check.due("P34 run there", yard.waiting(0) + yard.remembered(0), 0);
    }

    private static void movesWithAll() {
        TimewarpYard yard = strayed();
        yard.fault(0);
        yard.message(1, 31, 0, 3L);
        yard.message(1, 32, 0, 4L);
        yard.room(1, 1);
        yard.saves(1, 2);
        yard.tick(1);
        String before = Whole.of(yard, 0, 2).replace("machine=1", "machine=0");
        Check.due("P34 kept", yard.kept(1), 1);
        Check.due("P34 waiting", yard.waiting(1), 1);
        Check.due("P34 stays", yard.strays(1), 1);
        Check.due("P34 from there", yard.move(1, 0), 1);
        Check.due("P34 with all it has", Whole.of(yard, 0, 2), before);
        yard.tick(30);
        Check.due("P34 what is under way comes there", yard.isTrue() && yard.isOver(), true);
        Check.due("P34 to its own", yard.move(1, 0), 0);
    }

    private static void faultGoesToWhatWasCommitted() {
        TimewarpYard yard = Yards.alone(9, 10, 20, 30, 40, 50);
        yard.saves(0, 2);
        yard.tick(1);
        yard.message(0, 31, 0, 1L);
        yard.commit();
        Check.due("P35 those behind what was committed", yard.fault(0), 2);
        Check.due("P35 state of what was committed", yard.state(0), 3);
        Check.due("P35 its clock", yard.clock(0), 30);
        Check.due("P35 saved ahead alone", yard.saved(0), 1);
        Check.due("P28 without running silently", yard.silent(), 0);
        Check.due("P25 one back", yard.backs(0), 1);
        yard.tick(1);
        Check.due("P17 run again", yard.state(0), 6);
    }

    private static void faultOfOneMachine() {
        TimewarpYard yard = Yards.machines(9, 9);
        for (int i = 0; i < 4; i++) {
            yard.process(i % 2);
        }
        for (int i = 0; i < 3; i++) {
            yard.message(i, 10, 0, 1L);
            yard.message(i, 20 + i, 0, 1L);
        }
        yard.tick(1);
        Check.due("P35 one process of two keeps some", yard.fault(1), 2);
        Check.due("P25 the one with none has no back", yard.backs(3), 0);
        Check.due("P35 both of the other", yard.fault(0), 4);
        Check.due("P25 one back each", yard.backs(0) + yard.backs(1) + yard.backs(2), 3);
        Check.due("P27 all", yard.undone(), 6);
        Check.due("P20 all wait", yard.waiting(0) + yard.waiting(1) + yard.waiting(2), 6);
    }

    /** Of two processes on the machine the lesser one's is taken back first: 30 ahead of 20 makes two backs. */
    private static void faultByProcesses() {
        for (int way = 0; way < 2; way++) {
            TimewarpYard yard = Yards.machines(9, 9);
            yard.process(0);
            yard.process(0);
            yard.process(1);
            yard.rule(0, 0, '+', 2, 10, 0);
            yard.rule(1, 0, '+', 2, 10, 0);
            yard.message(0, way == 0 ? 20 : 10, 0, 1L);
            yard.message(1, way == 0 ? 10 : 20, 0, 1L);
            yard.tick(2);
            yard.window(0);
            yard.fault(0);
            yard.tick(1);
            Check.due("P35 by processes, way " + way, yard.backs(2), 2 - way);
            Check.due("P35 both are taken away, way " + way, yard.waiting(2) + yard.kept(2), 0);
        }
    }

    private static void faultLeavesWhatWaits() {
        TimewarpYard yard = Yards.alone(1, 10, 20, 30);
        yard.tick(1);
        yard.message(0, 40, 0, 1L);
        Check.due("P35 waits again, without those that waited", yard.fault(0), 1);
        Check.due("P20 with those that waited", yard.waiting(0), 3);
        Check.due("P24 what is under way stays so", yard.flying(false), 1);
        Check.due("P11 no tick passes", yard.now(), 1);
    }
}
