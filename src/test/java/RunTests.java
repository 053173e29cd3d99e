/** The edges of 'Ticks' and 'What may run': what comes when, who runs first, what is safe. */
final class RunTests {
    private RunTests() {
    }

    static void runAll() {
        sentAndRunInOneTick();
        comesAsItWasSent();
        outsideBehindWhatWasSent();
        speedOverAllProcesses();
        speedOfThoseThatRunWhatIsSafe();
        firstIsNotAllowedNorAnyBehind();
        laterMachineSeesWhatWasSent();
        earlierMachineDoesNot();
        safeBesideWhatIsUnderWay();
        safeBesideWhatTakesBack();
        safeBesideWhatWaits();
        boldByWhatTakesBack();
        boundOfAll();
        boundOfSeveralAtOne();
        boundIsTakenAnew();
        boldAndCautiousFromNowOn();
        delayByBothMachines();
    }

    /** What a tick sends comes in the next one at the soonest. */
    private static void sentAndRunInOneTick() {
        TimewarpYard yard = Yards.apart(1, 9);
        yard.rule(0, 0, '+', 0, 1, 0);
        yard.message(0, 0, 0, 1L);
        for (int i = 0; i < 5; i++) {
            Check.due("ticks: one of the chain in each", yard.tick(1), 1);
        }
        Check.due("ticks: a hundred in a hundred", yard.tick(100), 100);
    }

    /** Two come in one tick behind which 51 and 91 are kept: 71 ahead of 31 makes two backs, the other way one. */
    private static int backsByTwo(int slow, int slowTime, int quick, int quickTime) {
        TimewarpYard yard = Yards.apart(3, 9);
        yard.rule(0, 0, '+', 2, 1, 0);
        yard.rule(1, 0, '+', 2, 1, 0);
        yard.delay(slow, 2, 5);
        yard.message(2, 51, 1, 1L);
        yard.message(2, 91, 1, 1L);
        yard.message(slow, slowTime, 0, 1L);
        yard.tick(4);
        yard.message(quick, quickTime, 0, 1L);
        yard.tick(1);
        Check.due("ticks: both under way", yard.flying(false), 2);
        yard.tick(1);
        Check.due("ticks: both came in the one in which they are due", yard.flying(false), 0);
        return yard.backs(2);
    }

    /** "of like ones as it was sent": whoever sent it, and however long it went. */
    private static void comesAsItWasSent() {
        Check.due("ticks: 70 was sent first, by 0", backsByTwo(0, 70, 1, 30), 2);
        Check.due("ticks: 70 was sent first, by 1", backsByTwo(1, 70, 0, 30), 2);
        Check.due("ticks: 30 was sent first, by 0", backsByTwo(0, 30, 1, 70), 1);
        Check.due("ticks: 30 was sent first, by 1", backsByTwo(1, 30, 0, 70), 1);
    }

    /** Sent in the tick before, so ahead of what is told behind that tick. */
    private static void outsideBehindWhatWasSent() {
        TimewarpYard yard = Yards.apart(2, 9);
        yard.rule(0, 0, '+', 1, 10, 0);
        yard.message(1, 60, 1, 1L);
        yard.message(1, 90, 1, 1L);
        yard.message(0, 60, 0, 1L);
        yard.tick(1);
        yard.message(1, 30, 1, 1L);
        yard.tick(1);
        Check.due("ticks: 70 came ahead of 30: two backs", yard.backs(1), 2);
    }

    private static void speedOverAllProcesses() {
        TimewarpYard yard = Yards.machines(3, 3);
        yard.process(0);
        yard.process(0);
        yard.process(1);
        for (int time = 10; time < 14; time++) {
            yard.message(0, time, 0, 1L);
            yard.message(1, time, 0, 1L);
            yard.message(2, time, 0, 1L);
        }
        yard.tick(1);
        Check.due("ticks: two of three for the lesser", yard.kept(0), 2);
        Check.due("ticks: one of three for the other", yard.kept(1), 1);
        Check.due("ticks: the other machine by itself", yard.kept(2), 3);
    }

    /** A cautious machine, and one without room, run as many as their speed, if each of these is safe. */
    private static void speedOfThoseThatRunWhatIsSafe() {
        for (int way = 0; way < 2; way++) {
            TimewarpYard yard = Yards.alone(3, 10, 20, 30, 40, 50);
            yard.cautious(0, way == 0);
            yard.room(0, way == 0 ? 999 : 1);
            Check.due("ticks: three that are safe, way " + way, yard.tick(1), 3);
            Check.due("ticks: and two, way " + way, yard.tick(1), 2);
        }
    }

    /** The window keeps the first one, so those behind it wait though there is speed left. */
    private static void firstIsNotAllowedNorAnyBehind() {
        TimewarpYard yard = Yards.machines(9, 1);
        yard.process(0);
        yard.process(0);
        yard.process(1);
        yard.window(5);
        yard.message(0, 16, 0, 1L);
        yard.message(1, 17, 0, 1L);
        yard.message(2, 10, 0, 1L);
        Check.due("ticks: that of the other machine alone", yard.tick(1), 1);
        Check.due("ticks: none of this", yard.kept(0) + yard.kept(1), 0);
        Check.due("ticks: both then", yard.tick(1), 2);
    }

    private static void laterMachineSeesWhatWasSent() {
        TimewarpYard yard = Yards.apart(2, 9);
        yard.rule(0, 0, '+', 0, 5, 1);
        yard.cautious(1, true);
        yard.message(0, 5, 0, 1L);
        yard.message(1, 10, 0, 1L);
        Check.due("ticks: sent by the lesser machine in this tick, of its time", yard.tick(1), 1);
        Check.due("ticks: the lesser machine runs it, and then this", yard.tick(1), 2);
    }

    private static void earlierMachineDoesNot() {
        TimewarpYard yard = Yards.apart(2, 9);
        yard.rule(1, 0, '+', 1, 5, 1);
        yard.cautious(0, true);
        yard.message(1, 10, 0, 1L);
        yard.message(0, 10, 0, 1L);
        Check.due("ticks: the greater machine sends behind it", yard.tick(1), 2);
    }

    /** A cautious machine's one event of the time 20, beside a message of this time that is under way. */
    private static TimewarpYard besideFlying(int time) {
        TimewarpYard yard = Yards.apart(2, 9);
        yard.rule(1, 0, '+', 1, 1, 1);
        yard.delay(1, 1, 9);
        yard.cautious(0, true);
        yard.message(1, time - 1, 0, 1L);
        yard.tick(1);
        yard.message(0, 20, 0, 1L);
        yard.tick(1);
        return yard;
    }

    private static void safeBesideWhatIsUnderWay() {
        Check.due("safe: an earlier one is under way", besideFlying(19).kept(0), 0);
        Check.due("safe: one of its time is under way", besideFlying(20).kept(0), 0);
        Check.due("safe: a later one is under way", besideFlying(21).kept(0), 1);
        TimewarpYard yard = besideFlying(20);
        yard.cautious(0, false);
        yard.room(0, 1);
        Check.due("safe: bold with room runs it", yard.tick(1), 1);
    }

    /** One that takes back is under way alone: the message was sent again on a short way, and is run. */
    private static TimewarpYard withBack(int time) {
        TimewarpYard yard = Yards.apart(3, 9);
        yard.rule(1, 0, '=', 2, 1, 1);
        yard.message(1, time - 1, 0, 1L);
        yard.tick(2);
        yard.delay(1, 2, 9);
        yard.fault(1);
        yard.delay(1, 2, 1);
        yard.tick(2);
        Check.due("back: one that takes back is under way", yard.flying(true), 1);
        Check.due("back: nothing else is", yard.flying(false), 0);
        Check.due("back: nothing waits", yard.waiting(1) + yard.waiting(2), 0);
        Check.due("P12 its time", yard.bound(), time);
        return yard;
    }

    private static void safeBesideWhatTakesBack() {
        for (int time = 19; time <= 21; time++) {
            TimewarpYard yard = withBack(time);
            yard.cautious(0, true);
            yard.message(0, 20, 0, 1L);
            yard.tick(1);
            Check.due("safe: beside one that takes back, of the time " + time, yard.kept(0), time == 21 ? 1 : 0);
            yard.tick(9);
            Check.due("safe: as nothing is under way", yard.kept(0), 1);
        }
    }

    /** Of another machine, whose turn is later in the tick. */
    private static void safeBesideWhatWaits() {
        for (int time = 19; time <= 21; time++) {
            TimewarpYard yard = Yards.apart(2, 9);
            yard.cautious(0, true);
            yard.message(0, 20, 0, 1L);
            yard.message(1, time, 0, 1L);
            yard.tick(1);
            Check.due("safe: beside one that waits of the time " + time, yard.kept(0), time == 19 ? 0 : 1);
            yard.tick(1);
            Check.due("safe: as that of the time " + time + " was run", yard.kept(0), 1);
        }
    }

    /** The bound of the window is that of what takes back, too. */
    private static void boldByWhatTakesBack() {
        for (int time = 30; time <= 31; time++) {
            TimewarpYard yard = withBack(20);
            yard.window(10);
            yard.message(0, time, 0, 1L);
            yard.tick(1);
            Check.due("bold: at most the window above what takes back, " + time, yard.kept(0), time == 30 ? 1 : 0);
        }
    }

    private static void boundOfAll() {
        TimewarpYard yard = Yards.apart(2, 1);
        yard.message(0, 30, 0, 1L);
        yard.message(0, 50, 0, 1L);
        Check.due("P12 the least under way", yard.bound(), 30);
        yard.tick(1);
        Check.due("P12 what waits, not what is kept", yard.bound(), 50);
        yard.message(1, 50, 0, 1L);
        Check.due("P12 both of one time", yard.bound(), 50);
        yard.message(1, 49, 0, 1L);
        Check.due("P12 the earlier one under way", yard.bound(), 49);
        yard.tick(1);
        Check.due("P12 one is left of 50", yard.bound(), 50);
        yard.message(1, 51, 0, 1L);
        Check.due("P12 not the later one under way", yard.bound(), 50);
        yard.tick(1);
        Check.due("P12 the last one", yard.bound(), 51);
        yard.tick(1);
        Check.due("P12 none", yard.bound(), -1);
    }

    /** Two wait at one process: the earlier one counts, for the bound, the window, what is safe, and a commit. */
    private static void boundOfSeveralAtOne() {
        for (int wanted = 0; wanted < 3; wanted++) {
            TimewarpYard yard = Yards.apart(2, 1);
            for (int time : new int[] {10, 20, 40}) {
                yard.message(1, time, 0, 1L);
            }
            yard.message(0, 9, 0, 1L);
            yard.tick(1);
            Check.due("P20 two wait at one", yard.waiting(1), 2);
            Check.due("P12 the earlier of both", yard.bound(), 20);
            yard.message(0, 31, 0, 1L);
            yard.window(wanted == 0 ? 10 : 200);
            yard.cautious(0, wanted == 1);
            yard.tick(1);
            Check.due("bold: by the earlier, or safe, or far above it", yard.kept(0), wanted == 2 ? 2 : 1);
        }
        TimewarpYard yard = Yards.machines(1, 9);
        yard.process(0);
        yard.process(1);
        for (int time : new int[] {10, 20, 40}) {
            yard.message(0, time, 0, 1L);
            yard.message(1, time + 1, 0, 1L);
        }
        yard.tick(1);
        Check.due("P30 below the earlier of both", yard.commit(), 2);
    }

    /** "each time": the bound rises with each event that is run in a tick, and so does what may run. */
    private static void boundIsTakenAnew() {
        TimewarpYard yard = Yards.alone(9, 10, 15, 20, 25, 31, 35);
        yard.window(5);
        Check.due("bold: each one is the bound itself", yard.tick(1), 6);
        TimewarpYard other = Yards.apart(2, 1);
        other.window(0);
        for (int time = 10; time < 13; time++) {
            other.message(0, time, 0, 1L);
            other.message(1, time, 0, 1L);
        }
        Check.due("bold: 10 of both", other.tick(1), 2);
        Check.due("bold: 11 of both", other.tick(1), 2);
        Check.due("bold: 12 of both", other.tick(1), 2);
    }

    private static void boldAndCautiousFromNowOn() {
        TimewarpYard yard = Yards.apart(2, 1);
        yard.cautious(1, true);
        yard.rule(0, 0, '+', 0, 1, 0);
        yard.delay(0, 0, 20);
        yard.message(0, 5, 0, 1L);
        yard.tick(1);
        yard.message(1, 50, 0, 1L);
        yard.message(1, 60, 0, 1L);
        Check.due("P15 cautious", yard.tick(1), 0);
        yard.cautious(1, false);
        Check.due("P15 bold from now on", yard.tick(1), 1);
        yard.cautious(1, true);
        Check.due("P15 cautious from now on", yard.tick(1), 0);
        Check.due("P15 what was run is kept", yard.kept(1), 1);
    }

    /** Each pair of machines has ticks of its own, each way. */
    private static void delayByBothMachines() {
        for (int from = 0; from < 4; from++) {
            for (int to = 0; to < 4; to++) {
                TimewarpYard yard = Yards.machines(9, 9, 9, 9);
                for (int i = 0; i < 16; i++) {
                    yard.delay(i / 4, i % 4, 2 + i);
                }
                yard.process(from);
                yard.process(to);
                yard.rule(0, 0, '+', 1, 10, 0);
                yard.message(0, 10, 0, 1L);
                yard.tick(1);
                int ticks = 2 + 4 * from + to;
                Check.due("delay: not before, " + from + " to " + to, yard.tick(ticks - 1), 0);
                Check.due("delay: as told for both, " + from + " to " + to, yard.tick(1), 1);
            }
        }
    }
}
