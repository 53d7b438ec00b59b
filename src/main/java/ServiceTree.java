import java.util.ArrayList;

/**
 * A keeper of a machine's services, tick by tick. The document DOC.md says what each call answers.
 *
 * A set of services is a long all through this file: bit s stands for service s, as there are at most 40.
 */
public final class ServiceTree {
    public static final int NONE = -1, KIND = -2, BUSY = -3, CLASH = -4, RING = -5, FULL = -6;

    private static final int MOST_SERVICES = 40;
    private static final int MOST_RELATIONS = 400;
    private static final int MOST_LETTERS = 20;
    private static final int MOST_KEPT_CHANGES = 2000;
    private static final int MOST_TICKS_A_CALL = 1000;
    private static final int MOST_START_OR_STOP = 50;
    private static final int LIVES = 8;
    private static final int LONGEST_LIFE = 1000;
    private static final int LONGEST_DELAY = 50;
    private static final int MOST_BUDGET = 10;
    private static final int WIDEST_WINDOW = 200;

    private static final int ONCE = 1, KNOCKED = 2, GROUP = 3;
    private static final int NEEDS = 0, WANTS = 1, BEHIND = 2, AGAINST = 3;
    private static final int DOWN = 0, STARTING = 1, UP = 2, STOPPING = 3, FAILED = 4, WAITING = 5;
    private static final int STATES = 6;
    private static final int START = 0, STOP = 1, ISOLATE = 2;
    private static final int TO_START = 1, TO_STOP = 2;

    private final ArrayList<Service> services = new ArrayList<>();
    private final Relations relations = new Relations();
    private final Draft draft = new Draft(relations);
    private final Jobs jobs = new Jobs(relations);
    private final Plan latestPlan = new Plan();
    private final History history = new History();
    private final long[] inState = new long[STATES];
    /** Those that are UP with a LIFE that runs. */
    private long living;
    /** Those with a LETTER at the door. */
    private long withLetters;
    private int now;
    private int lettersCome;
    private int lettersRead;
    private int latestRing;
    /** How many changes there were when GOING was last looked through. */
    private int settledChanges;

    public ServiceTree() {
    }

    // ---- telling of services

    public int make(int kind, int start, int stop) {
        if (!within(kind, 0, GROUP)) {
            return NONE;
        }
        int most = kind == GROUP ? 0 : MOST_START_OR_STOP;
        if (!within(start, 0, most) || !within(stop, 0, most)) {
            return NONE;
        }
        int s = services.size();
        if (s >= MOST_SERVICES) {
            return FULL;
        }
        services.add(new Service(kind, start, stop, now));
        inState[DOWN] |= only(s);
        return s;
    }

    public int life(int s, int i, int v) {
        if (!exists(s) || !within(i, 0, LIVES - 1) || !within(v, 0, LONGEST_LIFE)) {
            return NONE;
        }
        Service service = services.get(s);
        if (service.kind == GROUP) {
            return KIND;
        }
        int before = service.lives[i];
        service.lives[i] = v;
        return before;
    }

    public int again(int s, int delay, int budget, int window) {
        if (!exists(s) || !within(delay, 1, LONGEST_DELAY) || !within(budget, 0, MOST_BUDGET)
                || !within(window, 1, WIDEST_WINDOW)) {
            return NONE;
        }
        services.get(s).restarts.allow(delay, budget, window);
        return 1;
    }

    public int relation(int how, int a, int b) {
        if (!canRelate(how, a, b)) {
            return NONE;
        }
        if (jobs.left() != 0) {
            return BUSY;
        }
        long idle = inState[DOWN] | inState[FAILED];
        if ((how == NEEDS || how == AGAINST) && !(holds(idle, a) && holds(idle, b))) {
            return CLASH;
        }
        if (relations.told(how, a, b)) {
            return 0;
        }
        if (relations.size >= MOST_RELATIONS) {
            return FULL;
        }
        relations.add(how, a, b);
        return 1;
    }

    public int undo(int how, int a, int b) {
        if (!canRelate(how, a, b)) {
            return NONE;
        }
        if (jobs.left() != 0) {
            return BUSY;
        }
        if (!relations.told(how, a, b)) {
            return 0;
        }
        relations.remove(how, a, b);
        return 1;
    }

    // ---- what is done

    public int order(int how, int x) {
        int answer = draftOrder(how, x);
        keepRing(answer);
        if (answer >= 0) {
            carryOutDraft();
        }
        return answer;
    }

    public int tick(int n) {
        if (!within(n, 1, MOST_TICKS_A_CALL)) {
            return NONE;
        }
        for (int i = 0; i < n; i++) {
            passTick();
        }
        return now;
    }

    public int letter(int s) {
        if (!exists(s)) {
            return NONE;
        }
        Service service = services.get(s);
        if (service.kind != KNOCKED) {
            return KIND;
        }
        if (service.door.isFull()) {
            return FULL;
        }
        int number = lettersCome;
        lettersCome++;
        service.door.put(number);
        withLetters |= only(s);
        // No keepRing() here: ring() tells of order() and plan() alone.
        if (service.state == DOWN && draftOrder(START, s) >= 0) {
            carryOutDraft();
        }
        return number;
    }

    // ---- what there is

    public int about(int s, int what) {
        if (!exists(s)) {
            return NONE;
        }
        Service service = services.get(s);
        switch (what) {
            case 0: return service.state;
            case 1: return service.since;
            case 2: return service.starts;
            case 3: return service.failures;
            case 4: return service.ended ? 1 : 0;
            case 5: return jobs.kindOf(s);
            case 6: return service.door.size;
            case 7: return service.door.read;
            case 8: return service.door.lastRead;
            case 9: return service.kind;
            default: return NONE;
        }
    }

    public int in(int state) {
        if (!within(state, 0, STATES - 1)) {
            return NONE;
        }
        return Long.bitCount(inState[state]);
    }

    public int count(int what) {
        switch (what) {
            case 0: return services.size();
            case 1: return relations.size;
            case 2: return Long.bitCount(jobs.left());
            case 3: return now;
            case 4: return lettersCome;
            case 5: return lettersRead;
            default: return NONE;
        }
    }

    public int related(int how, int a, int b) {
        if (!canRelate(how, a, b)) {
            return NONE;
        }
        return relations.told(how, a, b) ? 1 : 0;
    }

    public int waits(int s, int how) {
        if (!exists(s) || !within(how, 0, 1)) {
            return NONE;
        }
        return Long.bitCount(how == 0 ? jobs.awaitedBy(s) : jobs.awaiting(s));
    }

    // ---- plans

    public int plan(int how, int x) {
        int answer = draftOrder(how, x);
        keepRing(answer);
        if (answer >= 0) {
            layOutDraft();
        }
        return answer;
    }

    public int planned(int i, int what) {
        return latestPlan.tell(i, what);
    }

    public int quick() {
        return latestPlan.laidOut ? latestPlan.lastEnd : NONE;
    }

    public int ring() {
        return latestRing;
    }

    // ---- what came about

    public int changes() {
        return history.size;
    }

    public int change(int i, int what) {
        return history.tell(i, what);
    }

    public int check() {
        int broken = 0;
        if (leastLacking() >= 0) {
            broken++;
        }
        if (relations.clash(startingUpOrStopping())) {
            broken++;
        }
        return broken;
    }

    // ---- small questions

    private static boolean within(int v, int least, int most) {
        return v >= least && v <= most;
    }

    private static long only(int s) {
        return 1L << s;
    }

    private static boolean holds(long set, int s) {
        return (set >>> s & 1L) != 0;
    }

    private boolean exists(int s) {
        return within(s, 0, services.size() - 1);
    }

    /** A RELATION is one of a service to another one, so none of itself to itself can be told or asked for. */
    private boolean canRelate(int how, int a, int b) {
        return within(how, 0, AGAINST) && exists(a) && exists(b) && a != b;
    }

    private long startingUpOrStopping() {
        return inState[STARTING] | inState[UP] | inState[STOPPING];
    }

    /** The least service that is STARTING or UP without all that it NEEDS; -1 if there is none. */
    private int leastLacking() {
        long running = inState[STARTING] | inState[UP];
        for (int s = 0; s < services.size(); s++) {
            if (holds(running, s) && !hasItsNeeds(s)) {
                return s;
            }
        }
        return -1;
    }

    private boolean hasItsNeeds(int s) {
        return (relations.from(NEEDS, s) & ~inState[UP]) == 0;
    }

    // ---- orders

    /** How many JOBS an order would make, which the draft holds then, or why it is refused. */
    private int draftOrder(int how, int x) {
        if (!within(how, START, ISOLATE) || !exists(x)) {
            return NONE;
        }
        if (jobs.left() != 0 || (inState[STARTING] | inState[STOPPING]) != 0) {
            return BUSY;
        }
        return draft.weigh(how, x, inState[UP], inState[WAITING]);
    }

    private void keepRing(int answer) {
        if (answer == RING) {
            latestRing = draft.ringSize;
        }
    }

    private void carryOutDraft() {
        long endsWaiting = draft.starts & inState[WAITING];
        for (int s = 0; s < services.size(); s++) {
            if (holds(endsWaiting, s)) {
                enter(s, DOWN);
            }
        }
        jobs.take(draft.starts, draft.stops);
        beginJobs();
    }

    private void layOutDraft() {
        long starts = draft.starts;
        long stops = draft.stops;
        long left = starts | stops;
        latestPlan.clear(starts);
        // Each round lays out at least one JOB, as the draft has no ring.
        for (int round = 0; round < MOST_SERVICES && left != 0; round++) {
            for (int s = 0; s < services.size(); s++) {
                if (holds(left, s) && (relations.awaitedBy(s, starts, stops) & left) == 0) {
                    int begin = latestPlan.endOf(relations.awaitedBy(s, starts, stops));
                    latestPlan.add(s, begin, begin + (holds(starts, s) ? ticksToStart(s) : ticksToStop(s, begin)));
                    left &= ~only(s);
                }
            }
        }
    }

    private int ticksToStart(int s) {
        return services.get(s).startTicks;
    }

    /** A service that is WAITING is DOWN at once, but only as long as its DELAY is not over when its JOB begins. */
    private int ticksToStop(int s, int begin) {
        Service service = services.get(s);
        boolean stillWaiting = service.state == WAITING && (begin == 0 || !service.isDue(now + begin));
        return stillWaiting ? 0 : service.stopTicks;
    }

    private void beginJobs() {
        if (jobs.left() == 0) {
            return;
        }
        // Each round begins or drops one JOB, and a service has one at most.
        for (int round = 0; round < MOST_SERVICES; round++) {
            int s = jobs.leastReady();
            if (!exists(s)) {
                return;
            }
            if (holds(jobs.starts, s)) {
                beginStart(s);
            } else {
                beginStop(s);
            }
        }
    }

    private void beginStart(int s) {
        if (!hasItsNeeds(s)) {
            jobs.end(s);
            return;
        }
        jobs.begin(s);
        enter(s, services.get(s).firstStateOfStart());
    }

    private void beginStop(int s) {
        Service service = services.get(s);
        if (service.state == DOWN || service.state == FAILED) {
            jobs.end(s);
            return;
        }
        jobs.begin(s);
        if (service.state == STOPPING) {
            return;
        }
        enter(s, service.state == WAITING ? DOWN : service.firstStateOfStop());
    }

    // ---- a tick

    private void passTick() {
        now++;
        long timed = inState[STARTING] | inState[STOPPING] | inState[WAITING] | living;
        if (timed != 0) {
            for (int s = 0; s < services.size(); s++) {
                if (holds(timed, s) && services.get(s).isDue(now)) {
                    passDueTime(s);
                }
            }
        }
        stopTheLacking();
        readLetters();
        beginJobs();
    }

    private void passDueTime(int s) {
        Service service = services.get(s);
        switch (service.state) {
            case STARTING:
                enter(s, UP);
                break;
            case STOPPING:
                enter(s, DOWN);
                break;
            case UP:
                endLife(s);
                break;
            case WAITING:
                enter(s, canWake(s) ? service.firstStateOfStart() : FAILED);
                break;
            default:
                break;
        }
    }

    private void endLife(int s) {
        Service service = services.get(s);
        if (service.kind == ONCE) {
            service.endByItself();
            living &= ~only(s);
            return;
        }
        enter(s, service.restarts.allowed(now) ? WAITING : FAILED);
    }

    private boolean canWake(int s) {
        return hasItsNeeds(s) && (relations.from(AGAINST, s) & startingUpOrStopping()) == 0;
    }

    /** GOING. It can only be called for by a change of STATE: a quiet tick passes it by. */
    private void stopTheLacking() {
        if (history.size == settledChanges) {
            return;
        }
        // Each round takes one service out of STARTING and UP.
        for (int round = 0; round < MOST_SERVICES; round++) {
            int s = leastLacking();
            if (!exists(s)) {
                break;
            }
            enter(s, services.get(s).firstStateOfStop());
        }
        settledChanges = history.size;
    }

    private void readLetters() {
        long readers = withLetters & inState[UP];
        if (readers == 0) {
            return;
        }
        for (int s = 0; s < services.size(); s++) {
            if (holds(readers, s)) {
                Door door = services.get(s).door;
                door.readFirst();
                lettersRead++;
                if (door.size == 0) {
                    withLetters &= ~only(s);
                }
            }
        }
    }

    /** The one place where a STATE changes, so that sets, history and JOBS go along with it. */
    private void enter(int s, int state) {
        Service service = services.get(s);
        long one = only(s);
        inState[service.state] &= ~one;
        inState[state] |= one;
        service.enter(state, now);
        if (service.life > 0) {
            living |= one;
        } else {
            living &= ~one;
        }
        history.add(now, s, state);
        jobs.noteState(s, state);
    }

    // ---- the parts

    private static final class Service {
        private final int kind;
        private final int startTicks;
        private final int stopTicks;
        private final int[] lives = new int[LIVES];
        private final Restarts restarts = new Restarts();
        private final Door door;
        private int state = DOWN;
        private int since;
        private int starts;
        private int failures;
        /** The LIFE that runs since it became UP; 0 if none does. */
        private int life;
        private boolean ended;

        Service(int kind, int startTicks, int stopTicks, int now) {
            this.kind = kind;
            this.startTicks = startTicks;
            this.stopTicks = stopTicks;
            this.since = now;
            this.door = new Door(kind == KNOCKED ? MOST_LETTERS : 0);
        }

        int firstStateOfStart() {
            return startTicks == 0 ? UP : STARTING;
        }

        int firstStateOfStop() {
            return stopTicks == 0 ? DOWN : STOPPING;
        }

        void enter(int newState, int now) {
            state = newState;
            since = now;
            ended = false;
            life = 0;
            if (newState == UP) {
                life = lives[Math.max(0, Math.min(starts, LIVES - 1))];
                starts++;
            }
            if (newState == FAILED || newState == WAITING) {
                failures++;
            }
            if (newState == WAITING) {
                restarts.note(now);
            }
        }

        void endByItself() {
            ended = true;
            life = 0;
        }

        boolean isDue(int now) {
            int span = span();
            return span > 0 && now - since >= span;
        }

        /** After how many ticks its STATE is over; 0: it has no end of its own. */
        private int span() {
            switch (state) {
                case STARTING: return startTicks;
                case STOPPING: return stopTicks;
                case UP: return life;
                case WAITING: return restarts.delay;
                default: return 0;
            }
        }
    }

    /** DELAY, BUDGET and WINDOW, and when the service became WAITING: the latest as many as a BUDGET can ask for. */
    private static final class Restarts {
        private final int[] times = new int[MOST_BUDGET];
        private int next;
        private int filled;
        private int delay = 1;
        private int budget;
        private int window = 1;

        void allow(int newDelay, int newBudget, int newWindow) {
            delay = newDelay;
            budget = newBudget;
            window = newWindow;
        }

        void note(int now) {
            times[next] = now;
            next = (next + 1) % MOST_BUDGET;
            if (filled < MOST_BUDGET) {
                filled++;
            }
        }

        /** Fewer than BUDGET times are in the WINDOW just if the BUDGET-th latest one is not. */
        boolean allowed(int now) {
            if (budget == 0) {
                return false;
            }
            if (filled < budget) {
                return true;
            }
            return times[(next + MOST_BUDGET - budget) % MOST_BUDGET] <= now - window;
        }
    }

    /** The LETTERS that lie at a service's door, the first come first. */
    private static final class Door {
        private final int[] letters;
        private int first;
        private int size;
        private int read;
        private int lastRead = -1;

        Door(int room) {
            letters = new int[room];
        }

        boolean isFull() {
            return size >= letters.length;
        }

        void put(int number) {
            if (isFull()) {
                return;
            }
            letters[(first + size) % letters.length] = number;
            size++;
        }

        void readFirst() {
            if (size == 0 || letters.length == 0) {
                return;
            }
            lastRead = letters[first];
            first = (first + 1) % letters.length;
            size--;
            read++;
        }
    }

    /** Who is related to whom, and what follows of that for sets of services. */
    private static final class Relations {
        private final long[][] froms = new long[AGAINST + 1][MOST_SERVICES];
        private final long[][] tos = new long[AGAINST + 1][MOST_SERVICES];
        private int size;

        /** All b to which a has the relation. */
        long from(int how, int a) {
            return froms[how][a];
        }

        boolean told(int how, int a, int b) {
            return holds(froms[how][a], b);
        }

        void add(int how, int a, int b) {
            write(how, a, b, true);
            size++;
        }

        void remove(int how, int a, int b) {
            write(how, a, b, false);
            size--;
        }

        private void write(int how, int a, int b, boolean is) {
            writeOneWay(how, a, b, is);
            if (how == AGAINST) {
                writeOneWay(how, b, a, is);
            }
        }

        private void writeOneWay(int how, int a, int b, boolean is) {
            froms[how][a] = is ? froms[how][a] | only(b) : froms[how][a] & ~only(b);
            tos[how][b] = is ? tos[how][b] | only(a) : tos[how][b] & ~only(a);
        }

        private static long union(long[] rows, long set) {
            long all = 0;
            for (int s = 0; s < rows.length; s++) {
                if (holds(set, s)) {
                    all |= rows[s];
                }
            }
            return all;
        }

        /** All to which one of the set has the relation. */
        long fromAny(int how, long set) {
            return union(froms[how], set);
        }

        long withNeeded(long set) {
            long all = set;
            for (int round = 0; round < MOST_SERVICES; round++) {
                long more = all | union(froms[NEEDS], all);
                if (more == all) {
                    break;
                }
                all = more;
            }
            return all;
        }

        /** The set, with whatever NEEDS one of it or of these, if it is among some. */
        long withNeeders(long set, long among) {
            long all = set;
            for (int round = 0; round < MOST_SERVICES; round++) {
                long more = all | (union(tos[NEEDS], all) & among);
                if (more == all) {
                    break;
                }
                all = more;
            }
            return all;
        }

        /** Whether two of the set are AGAINST each other. */
        boolean clash(long set) {
            return (union(froms[AGAINST], set) & set) != 0;
        }

        /** For whose JOBS that of s waits, if such ones to start and to stop there are. */
        long awaitedBy(int s, long starts, long stops) {
            if (holds(starts, s)) {
                return ((froms[NEEDS][s] | froms[BEHIND][s]) & starts) | (froms[AGAINST][s] & stops);
            }
            if (holds(stops, s)) {
                return (tos[NEEDS][s] | tos[BEHIND][s]) & stops;
            }
            return 0;
        }

        private long after(int s) {
            return froms[NEEDS][s] | froms[BEHIND][s];
        }

        /** What is left of the set when all have gone from which no way leads into a ring: empty just if there is no ring. */
        long tangled(long set) {
            long left = set;
            for (int round = 0; round < MOST_SERVICES; round++) {
                long kept = 0;
                for (int s = 0; s < MOST_SERVICES; s++) {
                    if (holds(left, s) && (after(s) & left) != 0) {
                        kept |= only(s);
                    }
                }
                if (kept == left) {
                    break;
                }
                left = kept;
            }
            return left;
        }

        /** How many a shortest ring of the set has, each one NEEDING the next or being BEHIND it; 0 if there is none. */
        int shortestRing(long set) {
            long left = tangled(set);
            int shortest = 0;
            for (int s = 0; s < MOST_SERVICES; s++) {
                int length = holds(left, s) ? ringThrough(s, left) : 0;
                if (length > 0 && (shortest == 0 || length < shortest)) {
                    shortest = length;
                }
            }
            return shortest;
        }

        private int ringThrough(int s, long set) {
            long seen = 0;
            long reached = after(s) & set;
            for (int length = 1; length <= MOST_SERVICES && reached != 0; length++) {
                if (holds(reached, s)) {
                    return length;
                }
                seen |= reached;
                long next = union(froms[NEEDS], reached) | union(froms[BEHIND], reached);
                reached = next & set & ~seen;
            }
            return 0;
        }
    }

    /** What an order would make, worked out without a change to anything else. */
    private static final class Draft {
        private final Relations relations;
        private long members;
        private long starts;
        private long stops;
        private int ringSize;

        Draft(Relations relations) {
            this.relations = relations;
        }

        /** How many JOBS there would be, or CLASH or RING. */
        int weigh(int how, int x, long up, long waiting) {
            long stoppable = up | waiting;
            members = 0;
            if (how == STOP) {
                stops = relations.withNeeders(only(x), stoppable) & stoppable;
            } else {
                int refusal = gatherNeeded(x, ~up);
                if (refusal < 0) {
                    return refusal;
                }
                gatherWanted(~up);
                long unwanted = relations.fromAny(AGAINST, members) | (how == ISOLATE ? ~members : 0);
                stops = relations.withNeeders(unwanted & stoppable, stoppable);
                if ((stops & members) != 0) {
                    return CLASH;
                }
            }
            starts = members & ~up;
            // No JOB to stop waits for one to start, and members were seen not to RING: a ring can only be
            // one of JOBS to stop, which is one of their services' relations, gone through backwards.
            ringSize = relations.shortestRing(stops);
            return ringSize > 0 ? RING : Long.bitCount(starts | stops);
        }

        private int gatherNeeded(int x, long notUp) {
            members = relations.withNeeded(only(x));
            if (relations.clash(members)) {
                return CLASH;
            }
            ringSize = relations.shortestRing(members & notUp);
            return ringSize > 0 ? RING : 0;
        }

        private void gatherWanted(long notUp) {
            long lookedAt = 0;
            for (int round = 0; round < MOST_SERVICES; round++) {
                int wanted = least(relations.fromAny(WANTS, members) & ~members & ~lookedAt);
                if (wanted < 0) {
                    return;
                }
                lookedAt |= only(wanted);
                long together = members | relations.withNeeded(only(wanted));
                if (!relations.clash(together) && relations.tangled(together & notUp) == 0) {
                    members = together;
                }
            }
        }

        private static int least(long set) {
            for (int s = 0; s < MOST_SERVICES; s++) {
                if (holds(set, s)) {
                    return s;
                }
            }
            return -1;
        }
    }

    /** The JOBS that have not ended. What waits for what follows from the relations, which stand still meanwhile. */
    private static final class Jobs {
        private final Relations relations;
        private long starts;
        private long stops;
        private long begun;

        Jobs(Relations relations) {
            this.relations = relations;
        }

        long left() {
            return starts | stops;
        }

        void take(long newStarts, long newStops) {
            starts = newStarts;
            stops = newStops;
            begun = 0;
        }

        int kindOf(int s) {
            if (holds(starts, s)) {
                return TO_START;
            }
            return holds(stops, s) ? TO_STOP : 0;
        }

        long awaitedBy(int s) {
            return relations.awaitedBy(s, starts, stops);
        }

        long awaiting(int s) {
            long all = 0;
            for (int other = 0; other < MOST_SERVICES; other++) {
                if (holds(awaitedBy(other), s)) {
                    all |= only(other);
                }
            }
            return all;
        }

        /** The least service whose JOB has not begun and waits for none; -1 if there is none. */
        int leastReady() {
            long toBegin = left() & ~begun;
            for (int s = 0; s < MOST_SERVICES; s++) {
                if (holds(toBegin, s) && awaitedBy(s) == 0) {
                    return s;
                }
            }
            return -1;
        }

        void begin(int s) {
            begun |= only(s);
        }

        void end(int s) {
            long others = ~(1L << s);
            starts &= others;
            stops &= others;
            begun &= others;
        }

        void noteState(int s, int state) {
            if (!holds(begun, s)) {
                return;
            }
            boolean goesOn = holds(starts, s) ? state == STARTING : state != DOWN;
            if (!goesOn) {
                end(s);
            }
        }
    }

    /** The latest PLAN that was not refused. */
    private static final class Plan {
        private final int[] sorted = new int[MOST_SERVICES];
        private final int[] begins = new int[MOST_SERVICES];
        private final int[] ends = new int[MOST_SERVICES];
        private long starts;
        private int size;
        private int lastEnd;
        private boolean laidOut;

        void clear(long newStarts) {
            starts = newStarts;
            size = 0;
            lastEnd = 0;
            laidOut = true;
        }

        void add(int s, int begin, int end) {
            if (size >= MOST_SERVICES) {
                return;
            }
            begins[s] = begin;
            ends[s] = end;
            lastEnd = Math.max(lastEnd, end);
            int place = size;
            while (place > 0 && isBefore(s, sorted[place - 1])) {
                sorted[place] = sorted[place - 1];
                place--;
            }
            sorted[place] = s;
            size++;
        }

        private boolean isBefore(int s, int other) {
            return begins[s] != begins[other] ? begins[s] < begins[other] : s < other;
        }

        /** At which tick the last of these ends. */
        int endOf(long set) {
            int latest = 0;
            for (int s = 0; s < MOST_SERVICES; s++) {
                if (holds(set, s)) {
                    latest = Math.max(latest, ends[s]);
                }
            }
            return latest;
        }

        int tell(int i, int what) {
            if (!within(i, 0, size - 1)) {
                return NONE;
            }
            int s = sorted[i];
            switch (what) {
                case 0: return s;
                case 1: return holds(starts, s) ? TO_START : TO_STOP;
                case 2: return begins[s];
                case 3: return ends[s];
                default: return NONE;
            }
        }
    }

    /** The latest changes of STATE; a change is one number, so that the room is small. */
    private static final class History {
        private static final int SERVICE_STEP = 8, TICK_STEP = 8 * 64;

        private final long[] kept = new long[MOST_KEPT_CHANGES];
        private int size;

        void add(int tick, int s, int state) {
            kept[Math.floorMod(size, MOST_KEPT_CHANGES)] = (long) tick * TICK_STEP + s * SERVICE_STEP + state;
            size++;
        }

        int tell(int i, int what) {
            if (i < 0 || i >= size || i < size - MOST_KEPT_CHANGES) {
                return NONE;
            }
            long packed = kept[i % MOST_KEPT_CHANGES];
            switch (what) {
                case 0: return (int) (packed / TICK_STEP);
                case 1: return (int) (packed % TICK_STEP / SERVICE_STEP);
                case 2: return (int) (packed % SERVICE_STEP);
                default: return NONE;
            }
        }
    }
}
