import java.util.ArrayList;
import java.util.Arrays;
import java.util.NoSuchElementException;

/** A simulation on many machines that run ahead, take it back, and commit what nothing can change any more. */
public final class TimewarpYard {
    private static final int MOST_MACHINES = 4;
    private static final int MOST_PROCESSES = 8;
    private static final int MOST_TOLD = 40;
    private static final int FASTEST = 9;
    private static final int LONGEST_DELAY = 20;
    private static final int MOST_ROOM = 999;
    private static final int KINDS = 4;
    private static final int LATEST_AFTER = 99;
    private static final int LATEST = 200;
    // What an event sends is later than itself: each message told leads to one event a time at most.
    private static final int MOST_EVENTS = MOST_TOLD * (LATEST + 1);
    private static final int WIDEST_WINDOW = 200;
    private static final int MOST_BETWEEN_SAVES = 20;
    private static final int MOST_TICKS = 100;
    private static final int LATEST_ASKED = 999;
    private static final int OUTSIDE = -1;
    private static final int NOBODY = -1;
    // A power of two above the longest delay: what is sent never falls into the slot that is emptied.
    private static final int SLOTS = 32;

    private final ArrayList<Machine> machines = new ArrayList<Machine>();
    private final ArrayList<Actor> actors = new ArrayList<Actor>();
    private final Transit transit = new Transit();
    private final Printout printout = new Printout();
    private final Chain outside = new Chain();
    private final Chain queue = new Chain();
    private final Chain spare = new Chain();
    private int horizon = LATEST;
    private int window = WIDEST_WINDOW;
    private int passed = 0;
    private int doneCount = 0;
    private int undoneCount = 0;
    private int silentCount = 0;
    private int antiCount = 0;
    private int commitBound = 0;
    private int latestCommitted = -1;
    private int queuedCount = 0;

    public TimewarpYard() {
    }

    public int machine(int speed) throws IllegalArgumentException, IllegalStateException {
        if (speed < 1 || speed > FASTEST) {
            throw new IllegalArgumentException("no such speed");
        }
        if (machines.size() >= MOST_MACHINES) {
            throw new IllegalStateException("no more machines");
        }
        int number = machines.size();
        machines.add(new Machine(number, speed));
        return number;
    }

    public int process(int machine)
            throws IndexOutOfBoundsException, UnsupportedOperationException, IllegalStateException {
        Machine host = knownMachine(machine);
        refuseWhenTold();
        if (actors.size() >= MOST_PROCESSES) {
            throw new IllegalStateException("no more processes");
        }
        int number = actors.size();
        actors.add(new Actor(number, host));
        return number;
    }

    public int delay(int machine, int other, int ticks)
            throws IndexOutOfBoundsException, IllegalArgumentException {
        Machine from = knownMachine(machine);
        Machine to = knownMachine(other);
        if (ticks < 1 || ticks > LONGEST_DELAY) {
            throw new IllegalArgumentException("no such delay");
        }
        int before = from.ticksTo(to);
        from.tellTicksTo(to, ticks);
        return before;
    }

    public char rule(int process, int kind, char work, int target, int after, int next)
            throws IndexOutOfBoundsException, IllegalArgumentException, UnsupportedOperationException {
        Actor actor = knownActor(process);
        if (target != NOBODY) {
            knownActor(target);
        }
        if (!isKind(kind) || !isWork(work)) {
            throw new IllegalArgumentException("no such kind or work");
        }
        if (target != NOBODY && (after < 1 || after > LATEST_AFTER || !isKind(next))) {
            throw new IllegalArgumentException("no such message");
        }
        refuseWhenTold();
        Rule rule = actor.ruleOf(kind);
        char before = rule.work;
        rule.work = work;
        rule.target = target;
        rule.after = after;
        rule.next = next;
        return before;
    }

    public boolean prints(int process, int kind, boolean is)
            throws IndexOutOfBoundsException, IllegalArgumentException, UnsupportedOperationException {
        Actor actor = knownActor(process);
        if (!isKind(kind)) {
            throw new IllegalArgumentException("no such kind");
        }
        refuseWhenTold();
        Rule rule = actor.ruleOf(kind);
        boolean before = rule.isPrinting;
        rule.isPrinting = is;
        return before;
    }

    public int horizon(int time) throws IllegalArgumentException, UnsupportedOperationException {
        if (time < 1 || time > LATEST) {
            throw new IllegalArgumentException("no such horizon");
        }
        refuseWhenTold();
        int before = horizon;
        horizon = time;
        return before;
    }

    public int saves(int process, int each) throws IndexOutOfBoundsException, IllegalArgumentException {
        Actor actor = knownActor(process);
        if (each < 1 || each > MOST_BETWEEN_SAVES) {
            throw new IllegalArgumentException("no such number of events");
        }
        int before = actor.each;
        actor.each = each;
        return before;
    }

    public int message(int process, int time, int kind, long value) throws IndexOutOfBoundsException,
            IllegalArgumentException, UnsupportedOperationException, IllegalStateException {
        knownActor(process);
        if (time < 0 || time > horizon || !isKind(kind)) {
            throw new IllegalArgumentException("no such time or kind");
        }
        if (time < commitBound) {
            throw new UnsupportedOperationException("what was committed stays");
        }
        int count = outside.size;
        if (count >= MOST_TOLD) {
            throw new IllegalStateException("no more messages");
        }
        Event told = fresh();
        told.process = process;
        told.time = time;
        told.sender = OUTSIDE;
        told.count = count;
        told.kind = kind;
        told.value = value;
        told.isBack = false;
        outside.append(told);
        transit.put(copyOf(told), passed + 1);
        return count;
    }

    public int tick(int ticks) throws IllegalArgumentException {
        if (ticks < 1 || ticks > MOST_TICKS) {
            throw new IllegalArgumentException("no such number of ticks");
        }
        int before = doneCount;
        for (int i = 0; i < ticks; i++) {
            passed++;
            letArrive();
            for (int k = 0; k < machines.size(); k++) {
                letWork(machines.get(k));
            }
        }
        return doneCount - before;
    }

    public int now() {
        return passed;
    }

    public int bound() {
        int least = leastTime();
        return least > LATEST ? -1 : least;
    }

    public int window(int window) throws IllegalArgumentException {
        if (window < 0 || window > WIDEST_WINDOW) {
            throw new IllegalArgumentException("no such window");
        }
        int before = this.window;
        this.window = window;
        return before;
    }

    public int room(int machine, int events) throws IndexOutOfBoundsException, IllegalArgumentException {
        Machine host = knownMachine(machine);
        if (events < 1 || events > MOST_ROOM) {
            throw new IllegalArgumentException("no such room");
        }
        int before = host.room;
        host.room = events;
        return before;
    }

    public boolean cautious(int machine, boolean is) throws IndexOutOfBoundsException {
        Machine host = knownMachine(machine);
        boolean before = host.isCautious;
        host.isCautious = is;
        return before;
    }

    public boolean lazy(int machine, boolean is) throws IndexOutOfBoundsException {
        Machine host = knownMachine(machine);
        boolean before = host.isLazy;
        host.isLazy = is;
        return before;
    }

    public long state(int process) throws IndexOutOfBoundsException {
        return knownActor(process).current.state;
    }

    public int clock(int process) throws IndexOutOfBoundsException {
        Actor actor = knownActor(process);
        Event last = actor.keptOnes.last;
        return last == null ? actor.lastCommitted : last.time;
    }

    public int kept(int process) throws IndexOutOfBoundsException {
        return knownActor(process).keptOnes.size;
    }

    public int waiting(int process) throws IndexOutOfBoundsException {
        return knownActor(process).waitingOnes.size;
    }

    public int strays(int process) throws IndexOutOfBoundsException {
        return knownActor(process).strayOnes.size;
    }

    public int saved(int process) throws IndexOutOfBoundsException {
        return knownActor(process).countSaved();
    }

    public int remembered(int process) throws IndexOutOfBoundsException {
        return knownActor(process).countRemembered();
    }

    public int flying(boolean isBack) {
        return isBack ? transit.backs : transit.messages;
    }

    public int backs(int process) throws IndexOutOfBoundsException {
        return knownActor(process).backCount;
    }

    public int done() {
        return doneCount;
    }

    public int undone() {
        return undoneCount;
    }

    public int silent() {
        return silentCount;
    }

    public int antis() {
        return antiCount;
    }

    public int commit() {
        // With nothing left that waits or is under way, this lies above every time: all is committed.
        int limit = leastTime();
        int count = 0;
        for (int left = countKept(null); left > 0; left--) {
            Actor actor = nextToCommit(limit);
            if (actor == null) {
                break;
            }
            commitFirst(actor);
            count++;
        }
        int reached = limit > LATEST ? latestCommitted + 1 : limit;
        commitBound = Math.max(commitBound, reached);
        return count;
    }

    public int printed() {
        return printout.size;
    }

    public long print(int index) throws NoSuchElementException {
        if (index < 0 || index >= printout.size) {
            throw new NoSuchElementException("not printed");
        }
        return printout.stateOf(index);
    }

    public int printTime(int index) throws NoSuchElementException {
        if (index < 0 || index >= printout.size) {
            throw new NoSuchElementException("not printed");
        }
        return printout.timeOf(index);
    }

    public int move(int process, int machine) throws IndexOutOfBoundsException {
        Actor actor = knownActor(process);
        Machine host = knownMachine(machine);
        int before = actor.host.number;
        actor.host = host;
        return before;
    }

    public int fault(int machine) throws IndexOutOfBoundsException {
        Machine host = knownMachine(machine);
        int count = 0;
        for (int i = 0; i < actors.size(); i++) {
            Actor actor = actors.get(i);
            if (actor.host == host && actor.keptOnes.first != null) {
                count += goBack(actor, actor.keptOnes.first, false);
            }
        }
        return count;
    }

    public long stateAt(int process, int time)
            throws IndexOutOfBoundsException, IllegalArgumentException, NoSuchElementException {
        Actor actor = knownActor(process);
        if (time < 0 || time > LATEST_ASKED) {
            throw new IllegalArgumentException("no such time");
        }
        if (time < commitBound) {
            throw new NoSuchElementException("committed");
        }
        return actor.stateAhead(time);
    }

    public long plain(int process) throws IndexOutOfBoundsException {
        Actor actor = knownActor(process);
        runQueue();
        return actor.alone.state;
    }

    public boolean isOver() {
        for (int i = 0; i < actors.size(); i++) {
            if (actors.get(i).strayOnes.size > 0) {
                return false;
            }
        }
        return leastTime() > LATEST;
    }

    public float wasteShare() throws ArithmeticException {
        if (doneCount == 0) {
            throw new ArithmeticException("none was run");
        }
        return (float) undoneCount / (float) doneCount;
    }

    public double meanKept() throws ArithmeticException {
        int count = actors.size();
        if (count == 0) {
            throw new ArithmeticException("there are none");
        }
        return (double) countKept(null) / (double) count;
    }

    public long checksum() {
        long sum = 7;
        for (int i = 0; i < actors.size(); i++) {
            Actor actor = actors.get(i);
            sum = 31 * sum + actor.current.state;
            sum = 31 * sum + actor.keptOnes.size;
            sum = 31 * sum + actor.waitingOnes.size;
        }
        sum = 31 * sum + transit.messages + transit.backs;
        return 31 * sum + antiCount;
    }

    public boolean isTrue() {
        boolean isEnd = isOver();
        if (isEnd) {
            runQueue();
        }
        for (int i = 0; i < actors.size(); i++) {
            Actor actor = actors.get(i);
            if (!actor.isInOrder() || isEnd && actor.current.state != actor.alone.state) {
                return false;
            }
        }
        return printout.isInOrder();
    }

    private Machine knownMachine(int number) {
        if (number < 0 || number >= machines.size()) {
            throw new IndexOutOfBoundsException("no such machine");
        }
        return machines.get(number);
    }

    private Actor knownActor(int number) {
        Actor actor = findActor(number);
        if (actor == null) {
            throw new IndexOutOfBoundsException("no such process");
        }
        return actor;
    }

    private Actor findActor(int number) {
        return number >= 0 && number < actors.size() ? actors.get(number) : null;
    }

    private void refuseWhenTold() {
        if (outside.size > 0) {
            throw new UnsupportedOperationException("a message was told");
        }
    }

    private static boolean isKind(int kind) {
        return kind >= 0 && kind < KINDS;
    }

    private static boolean isWork(char work) {
        return work == '+' || work == '-' || work == '*' || work == '=' || work == '?';
    }

    private Event fresh() {
        Event event = spare.first;
        if (event == null) {
            return new Event();
        }
        spare.takeOut(event);
        event.isRemembering = false;
        return event;
    }

    private Event copyOf(Event model) {
        Event copy = fresh();
        copy.process = model.process;
        copy.time = model.time;
        copy.sender = model.sender;
        copy.count = model.count;
        copy.kind = model.kind;
        copy.value = model.value;
        copy.isBack = model.isBack;
        return copy;
    }

    /** Above every time if nothing waits or is under way. */
    private int leastTime() {
        return Math.min(transit.leastTime(), leastWaiting());
    }

    private int leastWaiting() {
        int least = LATEST + 1;
        for (int i = 0; i < actors.size(); i++) {
            Event first = actors.get(i).waitingOnes.first;
            if (first != null && first.time < least) {
                least = first.time;
            }
        }
        return least;
    }

    /** Counts the kept events of one machine's processes, or of all. */
    private int countKept(Machine host) {
        int count = 0;
        for (int i = 0; i < actors.size(); i++) {
            Actor actor = actors.get(i);
            if (host == null || actor.host == host) {
                count += actor.keptOnes.size;
            }
        }
        return count;
    }

    private void letArrive() {
        Chain slot = transit.slotOf(passed);
        for (int left = slot.size; left > 0 && slot.first != null; left--) {
            Event event = slot.first;
            transit.takeOut(slot, event);
            Actor actor = findActor(event.process);
            if (actor != null && event.isBack) {
                takeAway(actor, event);
            } else if (actor != null) {
                receive(actor, event);
            }
        }
    }

    private void receive(Actor actor, Event event) {
        Event stray = actor.strayOnes.firstLike(event);
        if (stray != null) {
            actor.strayOnes.takeOut(stray);
            spare.append(stray);
            spare.append(event);
            return;
        }
        Event from = actor.firstKeptBehind(event);
        if (from != null) {
            goBack(actor, from, actor.host.isLazy);
        }
        actor.waitingOnes.putInOrder(event);
    }

    private void takeAway(Actor actor, Event back) {
        Event gone = actor.waitingOnes.firstLike(back);
        if (gone == null) {
            gone = actor.firstKeptLike(back);
            if (gone == null) {
                actor.strayOnes.append(back);
                return;
            }
            goBack(actor, gone, actor.host.isLazy);
        }
        actor.waitingOnes.takeOut(gone);
        if (gone.isRemembering) {
            send(actor, gone, gone.rememberedValue, gone.rememberedCount, true);
        }
        spare.append(gone);
        spare.append(back);
    }

    /** Goes back to ahead of a kept event; answers how many wait again. */
    private int goBack(Actor actor, Event from, boolean isRemembering) {
        for (Event event = from; event != null; event = event.next) {
            if (!actor.isSender(event, horizon)) {
                continue;
            }
            long value = event.state;
            int count = event.sent - 1;
            if (isRemembering) {
                event.isRemembering = true;
                event.rememberedValue = value;
                event.rememberedCount = count;
            } else {
                send(actor, event, value, count, true);
            }
        }
        int count = actor.waitAgainFrom(from);
        undoneCount += count;
        // The state behind every kept event is at hand: what would run silently is only counted.
        silentCount += actor.countUnsaved();
        actor.backCount++;
        return count;
    }

    /** Sends what an event sends with this value and count, or what takes it back. */
    private void send(Actor actor, Event cause, long value, int count, boolean isBack) {
        Rule rule = actor.ruleOf(cause.kind);
        Actor target = findActor(rule.target);
        if (target == null) {
            return;
        }
        Event sent = fresh();
        sent.becomeSent(cause, rule, value, count);
        sent.isBack = isBack;
        transit.put(sent, passed + actor.host.ticksTo(target.host));
        if (isBack) {
            antiCount++;
        }
    }

    private void letWork(Machine machine) {
        for (int i = 0; i < machine.speed; i++) {
            Event first = firstWaiting(machine);
            if (first == null || !mayRun(machine, first)) {
                return;
            }
            Actor actor = findActor(first.process);
            if (actor == null) {
                return;
            }
            runEvent(actor, first);
        }
    }

    private Event firstWaiting(Machine machine) {
        Event least = null;
        for (int i = 0; i < actors.size(); i++) {
            Actor actor = actors.get(i);
            Event first = actor.waitingOnes.first;
            if (actor.host == machine && first != null && (least == null || first.compareWith(least) < 0)) {
                least = first;
            }
        }
        return least;
    }

    private boolean mayRun(Machine machine, Event event) {
        if (!machine.isCautious && countKept(machine) < machine.room) {
            return event.time <= leastTime() + window;
        }
        return transit.leastTime() > event.time && leastWaiting() >= event.time;
    }

    private void runEvent(Actor actor, Event event) {
        Condition current = actor.current;
        actor.waitingOnes.takeOut(event);
        current.work(actor.ruleOf(event.kind).work, event.value);
        if (actor.isSender(event, horizon)) {
            long value = current.state;
            int count = current.sent;
            boolean hasGone = event.isRemembering && event.rememberedValue == value && event.rememberedCount == count;
            if (event.isRemembering && !hasGone) {
                send(actor, event, event.rememberedValue, event.rememberedCount, true);
            }
            if (!hasGone) {
                send(actor, event, value, count, false);
            }
            current.sent++;
            event.isRemembering = false;
        }
        event.keep(current);
        event.isSaved = false;
        actor.keptOnes.append(event);
        event.isSaved = actor.countUnsaved() >= actor.each;
        doneCount++;
    }

    /** The process whose first kept event is the next one below the limit, in the order of events. */
    private Actor nextToCommit(int limit) {
        Actor next = null;
        int least = limit;
        for (int i = 0; i < actors.size(); i++) {
            Actor actor = actors.get(i);
            Event first = actor.keptOnes.first;
            if (first != null && first.time < least) {
                least = first.time;
                next = actor;
            }
        }
        return next;
    }

    private void commitFirst(Actor actor) {
        Event event = actor.keptOnes.first;
        if (event == null) {
            return;
        }
        actor.keptOnes.takeOut(event);
        actor.ahead.becomeThatBehind(event);
        actor.lastCommitted = event.time;
        latestCommitted = Math.max(latestCommitted, event.time);
        if (actor.ruleOf(event.kind).isPrinting) {
            printout.add(event.state, event.time);
        }
        spare.append(event);
    }

    /** Runs all that was told as one queue, once for the same messages. */
    private void runQueue() {
        if (queuedCount == outside.size) {
            return;
        }
        queuedCount = outside.size;
        for (int i = 0; i < actors.size(); i++) {
            actors.get(i).alone.start(i);
        }
        for (Event told = outside.first; told != null; told = told.next) {
            queue.putInOrder(copyOf(told));
        }
        for (int left = MOST_EVENTS; left > 0 && queue.first != null; left--) {
            runQueued(queue.first);
        }
    }

    private void runQueued(Event event) {
        queue.takeOut(event);
        Actor actor = findActor(event.process);
        if (actor == null) {
            spare.append(event);
            return;
        }
        Rule rule = actor.ruleOf(event.kind);
        actor.alone.work(rule.work, event.value);
        if (!actor.isSender(event, horizon)) {
            spare.append(event);
            return;
        }
        event.becomeSent(event, rule, actor.alone.state, actor.alone.sent);
        actor.alone.sent++;
        queue.putInOrder(event);
    }

    private static final class Machine {
        final int number;
        final int speed;
        final int[] ticks = new int[MOST_MACHINES];
        int room = MOST_ROOM;
        boolean isCautious = false;
        boolean isLazy = false;

        Machine(int number, int speed) {
            this.number = number;
            this.speed = speed;
            Arrays.fill(ticks, 1);
        }

        int ticksTo(Machine other) {
            int at = other.number;
            return at >= 0 && at < ticks.length ? ticks[at] : 1;
        }

        void tellTicksTo(Machine other, int told) {
            int at = other.number;
            if (at >= 0 && at < ticks.length) {
                ticks[at] = told;
            }
        }
    }

    private static final class Rule {
        char work = '+';
        int target = NOBODY;
        int after = 1;
        int next = 0;
        boolean isPrinting = false;
    }

    /** What going back brings back of a process. */
    private static final class Condition {
        long state = 0;
        long stream = 0;
        int sent = 0;

        void start(int number) {
            state = 0;
            stream = 7919L * number + 1;
            sent = 0;
        }

        void become(Condition other) {
            state = other.state;
            stream = other.stream;
            sent = other.sent;
        }

        void becomeThatBehind(Event event) {
            state = event.state;
            stream = event.stream;
            sent = event.sent;
        }

        void work(char work, long value) {
            if (work == '+') {
                state += value;
            } else if (work == '-') {
                state -= value;
            } else if (work == '*') {
                state = 31 * state + value;
            } else if (work == '=') {
                state = value;
            } else {
                stream = stream * 48271L % 2147483647L;
                state += stream % 100;
            }
        }
    }

    /** A message, under way or at its process, or another one that takes it back. */
    private static final class Event {
        int process = 0;
        int time = 0;
        int sender = OUTSIDE;
        int count = 0;
        int kind = 0;
        long value = 0;
        boolean isBack = false;
        boolean isSaved = false;
        boolean isRemembering = false;
        long rememberedValue = 0;
        int rememberedCount = 0;
        // Those behind it, as it is kept.
        long state = 0;
        long stream = 0;
        int sent = 0;
        Event next = null;
        Event previous = null;

        /** The cause may be this one itself. */
        void becomeSent(Event cause, Rule rule, long sentValue, int sentCount) {
            time = cause.time + rule.after;
            sender = cause.process;
            count = sentCount;
            process = rule.target;
            kind = rule.next;
            value = sentValue;
        }

        void keep(Condition behind) {
            state = behind.state;
            stream = behind.stream;
            sent = behind.sent;
        }

        int compareWith(Event other) {
            if (time != other.time) {
                return Integer.compare(time, other.time);
            }
            if (process != other.process) {
                return Integer.compare(process, other.process);
            }
            if (sender != other.sender) {
                return Integer.compare(sender, other.sender);
            }
            if (count != other.count) {
                return Integer.compare(count, other.count);
            }
            if (kind != other.kind) {
                return Integer.compare(kind, other.kind);
            }
            return Long.compare(value, other.value);
        }
    }

    private static final class Chain {
        Event first = null;
        Event last = null;
        int size = 0;

        void append(Event event) {
            event.previous = last;
            event.next = null;
            if (last == null) {
                first = event;
            } else {
                last.next = event;
            }
            last = event;
            size++;
        }

        void putAhead(Event event, Event place) {
            if (place == null) {
                append(event);
                return;
            }
            Event before = place.previous;
            event.previous = before;
            event.next = place;
            place.previous = event;
            if (before == null) {
                first = event;
            } else {
                before.next = event;
            }
            size++;
        }

        void putInOrder(Event event) {
            Event place = first;
            while (place != null && place.compareWith(event) <= 0) {
                place = place.next;
            }
            putAhead(event, place);
        }

        void takeOut(Event event) {
            Event before = event.previous;
            Event after = event.next;
            if (before == null) {
                first = after;
            } else {
                before.next = after;
            }
            if (after == null) {
                last = before;
            } else {
                after.previous = before;
            }
            event.previous = null;
            event.next = null;
            size--;
        }

        Event firstLike(Event model) {
            Event event = first;
            while (event != null && event.compareWith(model) != 0) {
                event = event.next;
            }
            return event;
        }
    }

    /** A process. */
    private static final class Actor {
        final Rule[] rules = new Rule[KINDS];
        final Condition current = new Condition();
        // That ahead of the first kept event.
        final Condition ahead = new Condition();
        // That by one queue.
        final Condition alone = new Condition();
        final Chain keptOnes = new Chain();
        final Chain waitingOnes = new Chain();
        final Chain strayOnes = new Chain();
        Machine host;
        int each = 1;
        int backCount = 0;
        int lastCommitted = -1;

        Actor(int number, Machine host) {
            this.host = host;
            current.start(number);
            ahead.start(number);
            alone.start(number);
            for (int i = 0; i < rules.length; i++) {
                rules[i] = new Rule();
            }
        }

        Rule ruleOf(int kind) {
            return rules[isKind(kind) ? kind : 0];
        }

        boolean isSender(Event event, int horizon) {
            Rule rule = ruleOf(event.kind);
            return rule.target != NOBODY && event.time + rule.after <= horizon;
        }

        int countSaved() {
            int count = 1;
            for (Event event = keptOnes.first; event != null; event = event.next) {
                if (event.isSaved) {
                    count++;
                }
            }
            return count;
        }

        /** How many kept events are behind the last saved state. */
        int countUnsaved() {
            int count = 0;
            for (Event event = keptOnes.last; event != null && !event.isSaved; event = event.previous) {
                count++;
            }
            return count;
        }

        int countRemembered() {
            int count = 0;
            for (Event event = waitingOnes.first; event != null; event = event.next) {
                if (event.isRemembering) {
                    count++;
                }
            }
            return count;
        }

        long stateAhead(int time) {
            long state = ahead.state;
            for (Event event = keptOnes.first; event != null && event.time < time; event = event.next) {
                state = event.state;
            }
            return state;
        }

        Event firstKeptBehind(Event model) {
            Event found = null;
            Event event = keptOnes.last;
            while (event != null && event.compareWith(model) > 0) {
                found = event;
                event = event.previous;
            }
            return found;
        }

        Event firstKeptLike(Event model) {
            Event found = null;
            Event event = keptOnes.last;
            while (event != null && event.compareWith(model) >= 0) {
                if (event.compareWith(model) == 0) {
                    found = event;
                }
                event = event.previous;
            }
            return found;
        }

        /** Lets the kept events from this one on wait again, and takes the state back; answers how many. */
        int waitAgainFrom(Event from) {
            int count = 0;
            boolean isThere = false;
            for (int left = keptOnes.size; left > 0 && !isThere && keptOnes.last != null; left--) {
                Event event = keptOnes.last;
                keptOnes.takeOut(event);
                waitingOnes.putAhead(event, waitingOnes.first);
                count++;
                isThere = event == from;
            }
            Event last = keptOnes.last;
            if (last == null) {
                current.become(ahead);
            } else {
                current.becomeThatBehind(last);
            }
            return count;
        }

        boolean isInOrder() {
            for (Event event = keptOnes.first; event != null; event = event.next) {
                Event behind = event.next == null ? waitingOnes.first : event.next;
                if (behind != null && event.compareWith(behind) > 0) {
                    return false;
                }
            }
            return true;
        }
    }

    /** What is under way, by the ticks in which it is due, and how much of each time. */
    private static final class Transit {
        final Chain[] slots = new Chain[SLOTS];
        final int[] counts = new int[LATEST + 1];
        // No time below this one has any.
        int lowest = LATEST + 1;
        int messages = 0;
        int backs = 0;

        Transit() {
            for (int i = 0; i < slots.length; i++) {
                slots[i] = new Chain();
            }
        }

        Chain slotOf(int due) {
            return slots[due & (SLOTS - 1)];
        }

        void put(Event event, int due) {
            slotOf(due).append(event);
            count(event, 1);
            lowest = Math.min(lowest, event.time);
        }

        void takeOut(Chain slot, Event event) {
            slot.takeOut(event);
            count(event, -1);
        }

        void count(Event event, int more) {
            if (event.time >= 0 && event.time < counts.length) {
                counts[event.time] += more;
            }
            if (event.isBack) {
                backs += more;
            } else {
                messages += more;
            }
        }

        /** Above every time if there is none. */
        int leastTime() {
            while (lowest >= 0 && lowest < counts.length && counts[lowest] == 0) {
                lowest++;
            }
            return lowest;
        }
    }

    private static final class Printout {
        long[] states = new long[16];
        int[] times = new int[16];
        int size = 0;

        void add(long state, int time) {
            if (size >= MOST_EVENTS) {
                return;
            }
            if (size >= states.length || size >= times.length) {
                states = Arrays.copyOf(states, 2 * size + 1);
                times = Arrays.copyOf(times, 2 * size + 1);
            }
            states[size] = state;
            times[size] = time;
            size++;
        }

        long stateOf(int index) {
            return index >= 0 && index < states.length ? states[index] : 0;
        }

        int timeOf(int index) {
            return index >= 0 && index < times.length ? times[index] : 0;
        }

        boolean isInOrder() {
            for (int i = 1; i < size && i < times.length; i++) {
                if (times[i - 1] > times[i]) {
                    return false;
                }
            }
            return true;
        }
    }
}
