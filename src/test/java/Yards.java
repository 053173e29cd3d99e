/** Yards that several tests begin with. */
final class Yards {
    private Yards() {
    }

    /** As many machines as speeds. */
    static TimewarpYard machines(int... speeds) {
        TimewarpYard yard = new TimewarpYard();
        for (int speed : speeds) {
            yard.machine(speed);
        }
        return yard;
    }

    /** A machine each for so many processes, all of this speed. */
    static TimewarpYard apart(int processes, int speed) {
        TimewarpYard yard = new TimewarpYard();
        for (int i = 0; i < processes; i++) {
            yard.machine(speed);
            yard.process(i);
        }
        return yard;
    }

    /** One process on one machine, with messages of the kind 0 and the value 1 at these times, not yet come. */
    static TimewarpYard alone(int speed, int... times) {
        TimewarpYard yard = apart(1, speed);
        for (int time : times) {
            yard.message(0, time, 0, 1L);
        }
        return yard;
    }
}
