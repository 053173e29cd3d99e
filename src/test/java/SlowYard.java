import java.util.ArrayList;
import java.util.Collections;
import java.util.Comparator;
import java.util.List;

/** The document's words taken one by one, in lists and with real silent runs: slow, and built otherwise than the class. */
final class SlowYard {
    record Note(int to, int time, int from, int count, int kind, long value) { }

    record Saved(int events, long state, long stream, int count) { }

    record Flight(Note note, boolean isBack, int due, long turn) { }

    static final Comparator<Note> ORDER = Comparator.comparingInt(Note::time).thenComparingInt(Note::to)
            .thenComparingInt(Note::from).thenComparingInt(Note::count).thenComparingInt(Note::kind)
            .thenComparingLong(Note::value);

    static final class Deed {
        final Note note;
        Note sent;
        Note remembered;
        long printed;

        Deed(Note note) {
            this.note = note;
        }
    }

    static final class Being {
        int machine;
        int each = 1;
        long state;
        long stream;
        int count;
        int backs;
        int clock = -1;
        final char[] work = {'+', '+', '+', '+'};
        final int[] target = {-1, -1, -1, -1};
        final int[] after = new int[4];
        final int[] next = new int[4];
        final boolean[] prints = new boolean[4];
        final List<Deed> kept = new ArrayList<>();
        final List<Deed> waiting = new ArrayList<>();
        final List<Note> strays = new ArrayList<>();
        final List<Saved> saves = new ArrayList<>();
    }

    final List<int[]> machines = new ArrayList<>();
    final List<Being> beings = new ArrayList<>();
    final List<Flight> flights = new ArrayList<>();
    final List<Note> told = new ArrayList<>();
    final List<Long> prints = new ArrayList<>();
    final List<Integer> printTimes = new ArrayList<>();
    final int[][] delays = new int[4][4];
    int horizon = 200;
    int window = 200;
    int now;
    int done;
    int undone;
    int silent;
    int antis;
    int lastBound;
    int greatest = -1;
    long turns;

    /** Speed, cautious, lazy, room. */
    void machine(int speed) {
        machines.add(new int[] {speed, 0, 0, 999});
        int number = machines.size() - 1;
        for (int i = 0; i < 4; i++) {
            delays[number][i] = 1;
        }
    }

    void process(int machine) {
        Being being = new Being();
        being.machine = machine;
        being.stream = 1 + 7919L * beings.size();
        being.saves.add(new Saved(0, 0, being.stream, 0));
        beings.add(being);
    }

    void message(int to, int time, int kind, long value) {
        Note note = new Note(to, time, -1, told.size(), kind, value);
        told.add(note);
        flights.add(new Flight(note, false, now + 1, turns++));
    }

    static long[] worked(Being being, int kind, long value, long state, long stream) {
        switch (being.work[kind]) {
            case '+': return new long[] {state + value, stream};
            case '-': return new long[] {state - value, stream};
            case '*': return new long[] {state * 31 + value, stream};
            case '=': return new long[] {value, stream};
            default:
                long turned = stream * 48271 % 2147483647;
                return new long[] {state + turned % 100, turned};
        }
    }

    Note sentBy(Being being, Note note, long state, int count) {
        int to = being.target[note.kind];
        int time = note.time + being.after[note.kind];
        return to < 0 || time > horizon ? null : new Note(to, time, note.to, count, being.next[note.kind], state);
    }

    void post(Note note, boolean isBack) {
        int from = beings.get(note.from).machine;
        int to = beings.get(note.to).machine;
        flights.add(new Flight(note, isBack, now + delays[from][to], turns++));
        if (isBack) {
            antis++;
        }
    }

    int goBack(Being being, int index, boolean isLazy) {
        int number = being.kept.size() - index;
        if (number == 0) {
            return 0;
        }
        being.backs++;
        undone += number;
        List<Deed> behind = new ArrayList<>(being.kept.subList(index, being.kept.size()));
        being.kept.subList(index, being.kept.size()).clear();
        being.saves.removeIf(saved -> saved.events > index);
        Saved last = being.saves.get(being.saves.size() - 1);
        being.state = last.state;
        being.stream = last.stream;
        being.count = last.count;
        for (int i = last.events; i < index; i++) {
            Deed deed = being.kept.get(i);
            long[] then = worked(being, deed.note.kind, deed.note.value, being.state, being.stream);
            being.state = then[0];
            being.stream = then[1];
            if (deed.sent != null) {
                being.count++;
            }
            silent++;
        }
        for (Deed deed : behind) {
            if (isLazy) {
                deed.remembered = deed.sent;
            } else if (deed.sent != null) {
                post(deed.sent, true);
            }
            deed.sent = null;
        }
        being.waiting.addAll(0, behind);
        return number;
    }

    void arrive(Flight flight) {
        Note note = flight.note;
        Being being = beings.get(note.to);
        boolean isLazy = machines.get(being.machine)[2] == 1;
        if (!flight.isBack) {
            if (being.strays.remove(note)) {
                return;
            }
            int index = 0;
            while (index < being.kept.size() && ORDER.compare(being.kept.get(index).note, note) <= 0) {
                index++;
            }
            goBack(being, index, isLazy);
            int place = 0;
            while (place < being.waiting.size() && ORDER.compare(being.waiting.get(place).note, note) <= 0) {
                place++;
            }
            being.waiting.add(place, new Deed(note));
            return;
        }
        int at = indexOf(being.waiting, note);
        if (at < 0) {
            int index = indexOf(being.kept, note);
            if (index < 0) {
                being.strays.add(note);
                return;
            }
            goBack(being, index, isLazy);
            at = indexOf(being.waiting, note);
        }
        Deed gone = being.waiting.remove(at);
        if (gone.remembered != null) {
            post(gone.remembered, true);
        }
    }

    static int indexOf(List<Deed> deeds, Note note) {
        for (int i = 0; i < deeds.size(); i++) {
            if (deeds.get(i).note.equals(note)) {
                return i;
            }
        }
        return -1;
    }

    int bound() {
        int least = 1000;
        for (Being being : beings) {
            for (Deed deed : being.waiting) {
                least = Math.min(least, deed.note.time);
            }
        }
        for (Flight flight : flights) {
            least = Math.min(least, flight.note.time);
        }
        return least == 1000 ? -1 : least;
    }

    boolean isSafe(Note note) {
        for (Flight flight : flights) {
            if (flight.note.time <= note.time) {
                return false;
            }
        }
        for (Being being : beings) {
            for (Deed deed : being.waiting) {
                if (deed.note.time < note.time) {
                    return false;
                }
            }
        }
        return true;
    }

    boolean mayRun(int machine, Note note) {
        int[] it = machines.get(machine);
        int keeps = 0;
        for (Being being : beings) {
            keeps += being.machine == machine ? being.kept.size() : 0;
        }
        boolean isBold = it[1] == 0 && keeps < it[3];
        return isBold && note.time <= bound() + window || isSafe(note);
    }

    void run(Deed deed) {
        Being being = beings.get(deed.note.to);
        being.waiting.remove(deed);
        long[] then = worked(being, deed.note.kind, deed.note.value, being.state, being.stream);
        being.state = then[0];
        being.stream = then[1];
        deed.printed = being.state;
        Note sent = sentBy(being, deed.note, being.state, being.count);
        if (deed.remembered != null && !deed.remembered.equals(sent)) {
            post(deed.remembered, true);
            deed.remembered = null;
        }
        if (sent != null) {
            if (deed.remembered == null) {
                post(sent, false);
            }
            being.count++;
        }
        deed.remembered = null;
        deed.sent = sent;
        being.kept.add(deed);
        int events = being.kept.size();
        if (events - being.saves.get(being.saves.size() - 1).events >= being.each) {
            being.saves.add(new Saved(events, being.state, being.stream, being.count));
        }
        done++;
    }

    int tick(int ticks) {
        int before = done;
        for (int i = 0; i < ticks; i++) {
            now++;
            List<Flight> coming = new ArrayList<>();
            for (Flight flight : flights) {
                if (flight.due <= now) {
                    coming.add(flight);
                }
            }
            flights.removeAll(coming);
            coming.sort(Comparator.comparingInt(Flight::due).thenComparingLong(Flight::turn));
            for (int k = 0; k < coming.size(); k++) {
                // What has yet to come in this tick is under way still, but nothing asks for it meanwhile.
                arrive(coming.get(k));
            }
            for (int machine = 0; machine < machines.size(); machine++) {
                work(machine);
            }
        }
        return done - before;
    }

    void work(int machine) {
        for (int i = 0; i < machines.get(machine)[0]; i++) {
            Deed first = null;
            for (Being being : beings) {
                for (Deed deed : being.waiting) {
                    if (being.machine == machine && (first == null || ORDER.compare(deed.note, first.note) < 0)) {
                        first = deed;
                    }
                }
            }
            if (first == null || !mayRun(machine, first.note)) {
                return;
            }
            run(first);
        }
    }

    int commit() {
        int bound = bound();
        List<Deed> all = new ArrayList<>();
        for (Being being : beings) {
            int number = 0;
            while (number < being.kept.size() && (bound < 0 || being.kept.get(number).note.time < bound)) {
                number++;
            }
            commitFirst(being, number);
            for (int i = 0; i < number; i++) {
                Deed deed = being.kept.remove(0);
                all.add(deed);
                being.clock = deed.note.time;
                greatest = Math.max(greatest, deed.note.time);
            }
        }
        all.sort((one, other) -> ORDER.compare(one.note, other.note));
        for (Deed deed : all) {
            if (beings.get(deed.note.to).prints[deed.note.kind]) {
                prints.add(deed.printed);
                printTimes.add(deed.note.time);
            }
        }
        lastBound = Math.max(lastBound, bound < 0 ? greatest + 1 : bound);
        return all.size();
    }

    /** Saves the state behind the first so many kept events as that ahead of the rest. */
    private void commitFirst(Being being, int number) {
        Saved last = null;
        List<Saved> behind = new ArrayList<>();
        for (Saved saved : being.saves) {
            if (saved.events <= number) {
                last = saved;
            } else {
                behind.add(new Saved(saved.events - number, saved.state, saved.stream, saved.count));
            }
        }
        long state = last.state;
        long stream = last.stream;
        int count = last.count;
        for (int i = last.events; i < number; i++) {
            Deed deed = being.kept.get(i);
            long[] then = worked(being, deed.note.kind, deed.note.value, state, stream);
            state = then[0];
            stream = then[1];
            count += deed.sent == null ? 0 : 1;
        }
        being.saves.clear();
        being.saves.add(new Saved(0, state, stream, count));
        being.saves.addAll(behind);
    }

    int fault(int machine) {
        int number = 0;
        for (Being being : beings) {
            if (being.machine == machine) {
                number += goBack(being, 0, false);
            }
        }
        return number;
    }

    long stateAt(int process, int time) {
        Being being = beings.get(process);
        long state = being.saves.get(0).state;
        long stream = being.saves.get(0).stream;
        for (Deed deed : being.kept) {
            if (deed.note.time < time) {
                long[] then = worked(being, deed.note.kind, deed.note.value, state, stream);
                state = then[0];
                stream = then[1];
            }
        }
        return state;
    }

    long[] plain() {
        int number = beings.size();
        long[] states = new long[number];
        long[] streams = new long[number];
        int[] counts = new int[number];
        for (int i = 0; i < number; i++) {
            streams[i] = 1 + 7919L * i;
        }
        List<Note> queue = new ArrayList<>(told);
        while (!queue.isEmpty()) {
            Note note = Collections.min(queue, ORDER);
            queue.remove(note);
            int at = note.to;
            long[] then = worked(beings.get(at), note.kind, note.value, states[at], streams[at]);
            states[at] = then[0];
            streams[at] = then[1];
            Note sent = sentBy(beings.get(at), note, states[at], counts[at]);
            if (sent != null) {
                counts[at]++;
                queue.add(sent);
            }
        }
        return states;
    }

    boolean isOver() {
        boolean isOver = flights.isEmpty();
        for (Being being : beings) {
            isOver &= being.waiting.isEmpty() && being.strays.isEmpty();
        }
        return isOver;
    }

    long checksum() {
        long sum = 7;
        for (Being being : beings) {
            sum = 31 * sum + being.state;
            sum = 31 * sum + being.kept.size();
            sum = 31 * sum + being.waiting.size();
        }
        sum = 31 * sum + flights.size();
        return 31 * sum + antis;
    }

    int flying(boolean isBack) {
        int number = 0;
        for (Flight flight : flights) {
            number += flight.isBack == isBack ? 1 : 0;
        }
        return number;
    }

    int remembered(int process) {
        int number = 0;
        for (Deed deed : beings.get(process).waiting) {
            number += deed.remembered == null ? 0 : 1;
        }
        return number;
    }

    int clock(int process) {
        Being being = beings.get(process);
        return being.kept.isEmpty() ? being.clock : being.kept.get(being.kept.size() - 1).note.time;
    }
}
