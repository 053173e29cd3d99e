/** All that a yard answers, as one text: what is told is told anew and put back, as that alone shows it. */
final class Whole {
    private static final int[] TIMES = {0, 15, 30, 999};

    private final TimewarpYard yard;
    private final int machines;
    private final int processes;
    private final StringBuilder text = new StringBuilder();

    private Whole(TimewarpYard yard, int machines, int processes) {
        this.yard = yard;
        this.machines = machines;
        this.processes = processes;
    }

    static String of(TimewarpYard yard, int machines, int processes) {
        Whole whole = new Whole(yard, machines, processes);
        whole.readCounts();
        for (int i = 0; i < processes; i++) {
            whole.readProcess(i);
        }
        for (int i = 0; i < machines; i++) {
            whole.readMachine(i);
        }
        whole.readTold();
        return whole.text.toString();
    }

    interface Asking {
        Object ask();
    }

    private void put(String name, Asking asking) {
        String answer;
        try {
            answer = String.valueOf(asking.ask());
        } catch (RuntimeException e) {
            answer = e.getClass().getSimpleName();
        }
        text.append(name).append('=').append(answer).append(' ');
    }

    private void readCounts() {
        put("now", yard::now);
        put("bound", yard::bound);
        put("flying", () -> yard.flying(false));
        put("flying back", () -> yard.flying(true));
        put("done", yard::done);
        put("undone", yard::undone);
        put("silent", yard::silent);
        put("antis", yard::antis);
        put("isOver", yard::isOver);
        put("wasteShare", yard::wasteShare);
        put("meanKept", yard::meanKept);
        put("checksum", yard::checksum);
        put("isTrue", yard::isTrue);
        put("printed", yard::printed);
        for (int i = 0; i < yard.printed(); i++) {
            int index = i;
            put("print", () -> yard.print(index));
            put("printTime", () -> yard.printTime(index));
        }
    }

    private void readProcess(int process) {
        put("process", () -> process);
        put("state", () -> yard.state(process));
        put("clock", () -> yard.clock(process));
        put("kept", () -> yard.kept(process));
        put("waiting", () -> yard.waiting(process));
        put("strays", () -> yard.strays(process));
        put("saved", () -> yard.saved(process));
        put("remembered", () -> yard.remembered(process));
        put("backs", () -> yard.backs(process));
        put("plain", () -> yard.plain(process));
        for (int time : TIMES) {
            put("stateAt", () -> yard.stateAt(process, time));
        }
        int each = yard.saves(process, 1);
        put("each", () -> each);
        yard.saves(process, each);
        int machine = yard.move(process, 0);
        put("machine", () -> machine);
        yard.move(process, machine);
    }

    private void readMachine(int machine) {
        put("machine", () -> machine);
        int room = yard.room(machine, 1);
        boolean isCautious = yard.cautious(machine, false);
        boolean isLazy = yard.lazy(machine, false);
        put("room", () -> room);
        put("cautious", () -> isCautious);
        put("lazy", () -> isLazy);
        yard.room(machine, room);
        yard.cautious(machine, isCautious);
        yard.lazy(machine, isLazy);
        for (int other = 0; other < machines; other++) {
            int ticks = yard.delay(machine, other, 1);
            put("delay", () -> ticks);
            yard.delay(machine, other, ticks);
        }
    }

    /** The horizon and what prints can be told, and so be asked, only while no message has been told. */
    private void readTold() {
        int window = yard.window(0);
        put("window", () -> window);
        yard.window(window);
        put("horizon", () -> {
            int horizon = yard.horizon(1);
            yard.horizon(horizon);
            return horizon;
        });
        for (int i = 0; i < 4 * Math.min(processes, 3); i++) {
            int process = i / 4;
            int kind = i % 4;
            put("prints", () -> {
                boolean is = yard.prints(process, kind, false);
                yard.prints(process, kind, is);
                return is;
            });
        }
    }
}
