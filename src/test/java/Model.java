import java.util.ArrayDeque;
import java.util.ArrayList;
import java.util.Comparator;
import java.util.List;
import java.util.TreeMap;
import java.util.TreeSet;

/**
 * The document written down a second time, as naively as can be and with none of the program's ways:
 * relations as rows of truth values, JOBS with a list of those for which they wait, a PLAN really carried
 * out on a copy. Random runs are held against it.
 */
final class Model {
    static final int NONE = -1, KIND = -2, BUSY = -3, CLASH = -4, RING = -5, FULL = -6;
    static final int DOWN = 0, STARTING = 1, UP = 2, STOPPING = 3, FAILED = 4, WAITING = 5;

    static final class Svc {
        int kind, start, stop, state, since, starts, fails, read;
        int lastRead = -1;
        int runningLife;
        boolean ended;
        int delay, budget, window;
        final int[] life = new int[8];
        final List<Integer> waitingTicks = new ArrayList<>();
        final ArrayDeque<Integer> door = new ArrayDeque<>();

        boolean is(int... states) {
            for (int st : states) {
                if (state == st) {
                    return true;
                }
            }
            return false;
        }
    }

    static final class Job {
        int s;
        boolean toStart, begun;
        final TreeSet<Integer> waitsFor = new TreeSet<>();
        int begin = -1, end = -1;
    }

    final List<Svc> svc = new ArrayList<>();
    final boolean[][][] rel = new boolean[4][40][40];
    TreeMap<Integer, Job> jobs = new TreeMap<>();
    final List<int[]> log = new ArrayList<>();
    int tick, lettersCome, lettersRead, lastRing, relationCount;
    List<Job> lastPlan;

    boolean no(int s) {
        return s < 0 || s >= svc.size();
    }

    int make(int kind, int start, int stop) {
        if (kind < 0 || kind > 3 || start < 0 || start > 50 || stop < 0 || stop > 50) {
            return NONE;
        }
        if (kind == 3 && (start != 0 || stop != 0)) {
            return NONE;
        }
        if (svc.size() == 40) {
            return FULL;
        }
        Svc v = new Svc();
        v.kind = kind;
        v.start = start;
        v.stop = stop;
        v.since = tick;
        svc.add(v);
        return svc.size() - 1;
    }

    int life(int s, int i, int v) {
        if (no(s) || i < 0 || i > 7 || v < 0 || v > 1000) {
            return NONE;
        }
        if (svc.get(s).kind == 3) {
            return KIND;
        }
        int was = svc.get(s).life[i];
        svc.get(s).life[i] = v;
        return was;
    }

    int again(int s, int delay, int budget, int window) {
        if (no(s) || delay < 1 || delay > 50 || budget < 0 || budget > 10 || window < 1 || window > 200) {
            return NONE;
        }
        Svc v = svc.get(s);
        v.delay = delay;
        v.budget = budget;
        v.window = window;
        return 1;
    }

    int relation(int how, int a, int b) {
        if (how < 0 || how > 3 || no(a) || no(b) || a == b) {
            return NONE;
        }
        if (!jobs.isEmpty()) {
            return BUSY;
        }
        if (how == 0 || how == 3) {
            if (!svc.get(a).is(DOWN, FAILED) || !svc.get(b).is(DOWN, FAILED)) {
                return CLASH;
            }
        }
        if (rel[how][a][b]) {
            return 0;
        }
        if (relationCount == 400) {
            return FULL;
        }
        relationCount++;
        rel[how][a][b] = true;
        if (how == 3) {
            rel[how][b][a] = true;
        }
        return 1;
    }

    int undo(int how, int a, int b) {
        if (how < 0 || how > 3 || no(a) || no(b) || a == b) {
            return NONE;
        }
        if (!jobs.isEmpty()) {
            return BUSY;
        }
        if (!rel[how][a][b]) {
            return 0;
        }
        relationCount--;
        rel[how][a][b] = false;
        if (how == 3) {
            rel[how][b][a] = false;
        }
        return 1;
    }

    // ---- orders

    boolean against(TreeSet<Integer> set) {
        for (int a : set) {
            for (int b : set) {
                if (rel[3][a][b]) {
                    return true;
                }
            }
        }
        return false;
    }

    TreeSet<Integer> needed(int x) {
        TreeSet<Integer> all = new TreeSet<>();
        ArrayDeque<Integer> todo = new ArrayDeque<>();
        todo.add(x);
        while (!todo.isEmpty()) {
            int a = todo.poll();
            if (all.add(a)) {
                for (int b = 0; b < svc.size(); b++) {
                    if (rel[0][a][b]) {
                        todo.add(b);
                    }
                }
            }
        }
        return all;
    }

    int ringOfMembers(TreeSet<Integer> members) {
        int n = svc.size();
        boolean[][] edge = new boolean[n][n];
        for (int a : members) {
            for (int b : members) {
                edge[a][b] = svc.get(a).state != UP && svc.get(b).state != UP && (rel[0][a][b] || rel[2][a][b]);
            }
        }
        return shortestRing(edge);
    }

    static int shortestRing(boolean[][] edge) {
        int n = edge.length;
        int far = 1000000;
        int[][] d = new int[n][n];
        for (int i = 0; i < n; i++) {
            for (int j = 0; j < n; j++) {
                d[i][j] = edge[i][j] ? 1 : far;
            }
        }
        for (int k = 0; k < n; k++) {
            for (int i = 0; i < n; i++) {
                for (int j = 0; j < n; j++) {
                    d[i][j] = Math.min(d[i][j], d[i][k] + d[k][j]);
                }
            }
        }
        int best = far;
        for (int i = 0; i < n; i++) {
            best = Math.min(best, d[i][i]);
        }
        return best == far ? 0 : best;
    }

    int draftRing;

    /** Fills made with the JOBS, or answers why not. */
    int draft(int how, int x, TreeMap<Integer, Job> made) {
        if (how < 0 || how > 2 || no(x)) {
            return NONE;
        }
        if (!jobs.isEmpty()) {
            return BUSY;
        }
        for (Svc v : svc) {
            if (v.is(STARTING, STOPPING)) {
                return BUSY;
            }
        }
        TreeSet<Integer> stops = new TreeSet<>();
        TreeSet<Integer> members = new TreeSet<>();
        if (how == 1) {
            if (svc.get(x).is(UP, WAITING)) {
                stops.add(x);
            }
            for (int a = 0; a < svc.size(); a++) {
                if (rel[0][a][x] && svc.get(a).is(UP, WAITING)) {
                    stops.add(a);
                }
            }
        } else {
            members = needed(x);
            if (against(members)) {
                return CLASH;
            }
            draftRing = ringOfMembers(members);
            if (draftRing > 0) {
                return RING;
            }
            addWanted(members);
            for (int a = 0; a < svc.size(); a++) {
                if (!svc.get(a).is(UP, WAITING)) {
                    continue;
                }
                boolean unwanted = how == 2 && !members.contains(a);
                for (int m : members) {
                    unwanted |= rel[3][a][m];
                }
                if (unwanted) {
                    stops.add(a);
                }
            }
        }
        boolean grew = true;
        while (grew) {
            grew = false;
            for (int a = 0; a < svc.size(); a++) {
                for (int b : new ArrayList<>(stops)) {
                    if (rel[0][a][b] && svc.get(a).is(UP, WAITING)) {
                        grew |= stops.add(a);
                    }
                }
            }
        }
        for (int m : members) {
            if (stops.contains(m)) {
                return CLASH;
            }
        }
        fill(members, stops, made);
        int n = svc.size();
        boolean[][] edge = new boolean[n][n];
        for (Job j : made.values()) {
            for (int other : j.waitsFor) {
                edge[j.s][other] = true;
            }
        }
        draftRing = shortestRing(edge);
        return draftRing > 0 ? RING : made.size();
    }

    void addWanted(TreeSet<Integer> members) {
        TreeSet<Integer> looked = new TreeSet<>();
        while (true) {
            int w = -1;
            for (int b = svc.size() - 1; b >= 0; b--) {
                boolean wanted = false;
                for (int m : members) {
                    wanted |= rel[1][m][b];
                }
                if (wanted && !members.contains(b) && !looked.contains(b)) {
                    w = b;
                }
            }
            if (w < 0) {
                return;
            }
            looked.add(w);
            TreeSet<Integer> all = new TreeSet<>(members);
            all.addAll(needed(w));
            if (!against(all) && ringOfMembers(all) == 0) {
                members.addAll(all);
            }
        }
    }

    void fill(TreeSet<Integer> members, TreeSet<Integer> stops, TreeMap<Integer, Job> made) {
        for (int m : members) {
            if (svc.get(m).state != UP) {
                Job j = new Job();
                j.s = m;
                j.toStart = true;
                made.put(m, j);
            }
        }
        for (int s : stops) {
            Job j = new Job();
            j.s = s;
            made.put(s, j);
        }
        for (Job j : made.values()) {
            for (Job k : made.values()) {
                boolean waits;
                if (j.toStart) {
                    waits = k.toStart ? rel[0][j.s][k.s] || rel[2][j.s][k.s] : rel[3][j.s][k.s];
                } else {
                    waits = !k.toStart && (rel[0][k.s][j.s] || rel[2][k.s][j.s]);
                }
                if (waits) {
                    j.waitsFor.add(k.s);
                }
            }
        }
    }

    int order(int how, int x) {
        int answer = orderQuietly(how, x);
        if (answer == RING) {
            lastRing = draftRing;
        }
        return answer;
    }

    int orderQuietly(int how, int x) {
        TreeMap<Integer, Job> made = new TreeMap<>();
        int answer = draft(how, x, made);
        if (answer < 0) {
            return answer;
        }
        for (Job j : made.values()) {
            if (j.toStart && svc.get(j.s).state == WAITING) {
                set(j.s, DOWN);
            }
        }
        jobs = made;
        beginAll();
        return answer;
    }

    void endJob(int s) {
        jobs.remove(s);
        for (Job j : jobs.values()) {
            j.waitsFor.remove(s);
        }
    }

    void endJobsThatAreOver() {
        for (int s = 0; s < svc.size(); s++) {
            Job j = jobs.get(s);
            if (j != null && j.begun && (j.toStart ? svc.get(s).state != STARTING : svc.get(s).state == DOWN)) {
                endJob(s);
            }
        }
    }

    void beginAll() {
        while (true) {
            Job ready = null;
            for (Job j : jobs.values()) {
                if (ready == null && !j.begun && j.waitsFor.isEmpty()) {
                    ready = j;
                }
            }
            if (ready == null) {
                return;
            }
            Svc v = svc.get(ready.s);
            if (ready.toStart && lacks(ready.s)) {
                endJob(ready.s);
            } else if (ready.toStart) {
                ready.begun = true;
                set(ready.s, v.start == 0 ? UP : STARTING);
            } else if (v.is(DOWN, FAILED)) {
                endJob(ready.s);
            } else {
                ready.begun = true;
                if (v.state != STOPPING) {
                    set(ready.s, v.stop == 0 || v.state == WAITING ? DOWN : STOPPING);
                }
            }
            endJobsThatAreOver();
        }
    }

    void set(int s, int state) {
        Svc v = svc.get(s);
        v.state = state;
        v.since = tick;
        v.ended = false;
        v.runningLife = 0;
        if (state == UP) {
            v.runningLife = v.life[v.starts > 7 ? 7 : v.starts];
            v.starts++;
        }
        if (state == FAILED || state == WAITING) {
            v.fails++;
        }
        log.add(new int[] {tick, s, state});
    }

    boolean lacks(int s) {
        for (int b = 0; b < svc.size(); b++) {
            if (rel[0][s][b] && svc.get(b).state != UP) {
                return true;
            }
        }
        return false;
    }

    boolean opposed(int s) {
        for (int b = 0; b < svc.size(); b++) {
            if (rel[3][s][b] && svc.get(b).is(STARTING, UP, STOPPING)) {
                return true;
            }
        }
        return false;
    }

    // ---- a tick

    int tick(int n) {
        if (n < 1 || n > 1000) {
            return NONE;
        }
        for (int i = 0; i < n; i++) {
            oneTick();
        }
        return tick;
    }

    void oneTick() {
        tick++;
        for (int s = 0; s < svc.size(); s++) {
            Svc v = svc.get(s);
            if (v.state == STARTING && tick - v.since >= v.start) {
                set(s, UP);
            }
            if (v.state == STOPPING && tick - v.since >= v.stop) {
                set(s, DOWN);
            }
            if (v.state == UP && v.runningLife > 0 && tick - v.since >= v.runningLife) {
                endLife(s, v);
            }
            if (v.state == WAITING && tick - v.since >= v.delay) {
                boolean fails = !nothingFails && (lacks(s) || opposed(s));
                set(s, fails ? FAILED : v.start == 0 ? UP : STARTING);
            }
        }
        boolean going = !nothingFails;
        while (going) {
            going = false;
            for (int s = 0; s < svc.size() && !going; s++) {
                if (svc.get(s).is(STARTING, UP) && lacks(s)) {
                    set(s, svc.get(s).stop == 0 ? DOWN : STOPPING);
                    going = true;
                }
            }
        }
        for (Svc v : svc) {
            if (v.kind == 2 && v.state == UP && !v.door.isEmpty()) {
                v.lastRead = v.door.poll();
                v.read++;
                lettersRead++;
            }
        }
        endJobsThatAreOver();
        beginAll();
    }

    void endLife(int s, Svc v) {
        if (v.kind == 1) {
            v.ended = true;
            v.runningLife = 0;
            return;
        }
        int recent = 0;
        for (int t : v.waitingTicks) {
            if (t > tick - v.window) {
                recent++;
            }
        }
        if (v.budget > 0 && recent < v.budget) {
            v.waitingTicks.add(tick);
            set(s, WAITING);
        } else {
            set(s, FAILED);
        }
    }

    int letter(int s) {
        if (no(s)) {
            return NONE;
        }
        Svc v = svc.get(s);
        if (v.kind != 2) {
            return KIND;
        }
        if (v.door.size() == 20) {
            return FULL;
        }
        v.door.add(lettersCome);
        lettersCome++;
        if (v.state == DOWN) {
            orderQuietly(0, s);
        }
        return lettersCome - 1;
    }

    // ---- questions

    int about(int s, int what) {
        if (no(s) || what < 0 || what > 9) {
            return NONE;
        }
        Svc v = svc.get(s);
        Job j = jobs.get(s);
        int job = j == null ? 0 : j.toStart ? 1 : 2;
        return new int[] {v.state, v.since, v.starts, v.fails, v.ended ? 1 : 0, job, v.door.size(), v.read,
            v.lastRead, v.kind}[what];
    }

    int in(int state) {
        if (state < 0 || state > 5) {
            return NONE;
        }
        int n = 0;
        for (Svc v : svc) {
            n += v.state == state ? 1 : 0;
        }
        return n;
    }

    int count(int what) {
        if (what < 0 || what > 5) {
            return NONE;
        }
        return new int[] {svc.size(), relationCount, jobs.size(), tick, lettersCome, lettersRead}[what];
    }

    int related(int how, int a, int b) {
        if (how < 0 || how > 3 || no(a) || no(b) || a == b) {
            return NONE;
        }
        return rel[how][a][b] ? 1 : 0;
    }

    int waits(int s, int how) {
        if (no(s) || how < 0 || how > 1) {
            return NONE;
        }
        if (how == 0) {
            return jobs.containsKey(s) ? jobs.get(s).waitsFor.size() : 0;
        }
        int n = 0;
        for (Job j : jobs.values()) {
            n += j.waitsFor.contains(s) ? 1 : 0;
        }
        return n;
    }

    int plan(int how, int x) {
        TreeMap<Integer, Job> made = new TreeMap<>();
        int answer = draft(how, x, made);
        if (answer == RING) {
            lastRing = draftRing;
        }
        if (answer >= 0) {
            play(made);
            lastPlan = new ArrayList<>(made.values());
            lastPlan.sort(Comparator.comparingInt((Job j) -> j.begin).thenComparingInt(j -> j.s));
        }
        return answer;
    }

    /** Carries the JOBS out on a copy in which nothing fails and no LIFE ends, and notes when they begin and end. */
    void play(TreeMap<Integer, Job> made) {
        Model dream = copyWithoutLife();
        for (Job j : made.values()) {
            Job twin = new Job();
            twin.s = j.s;
            twin.toStart = j.toStart;
            twin.waitsFor.addAll(j.waitsFor);
            dream.jobs.put(j.s, twin);
            if (j.toStart) {
                dream.svc.get(j.s).state = DOWN;
            }
        }
        TreeMap<Integer, Job> twins = new TreeMap<>(dream.jobs);
        for (int t = 0; t == 0 || !dream.jobs.isEmpty(); t++) {
            if (t == 0) {
                dream.beginAll();
            } else {
                dream.oneTick();
            }
            for (Job j : made.values()) {
                if (j.begin < 0 && twins.get(j.s).begun) {
                    j.begin = t;
                }
                if (j.end < 0 && !dream.jobs.containsKey(j.s)) {
                    j.end = t;
                }
            }
        }
    }

    /** True of a copy in which what would fail goes on all the same. */
    boolean nothingFails;

    Model copyWithoutLife() {
        Model copy = new Model();
        copy.nothingFails = true;
        copy.tick = tick;
        for (int how = 0; how < 4; how++) {
            for (int a = 0; a < 40; a++) {
                copy.rel[how][a] = rel[how][a].clone();
            }
        }
        for (Svc v : svc) {
            Svc twin = new Svc();
            twin.kind = v.kind;
            twin.start = v.start;
            twin.stop = v.stop;
            twin.state = v.state;
            twin.since = v.since;
            twin.delay = v.delay;
            copy.svc.add(twin);
        }
        return copy;
    }

    int planned(int i, int what) {
        if (lastPlan == null || i < 0 || i >= lastPlan.size() || what < 0 || what > 3) {
            return NONE;
        }
        Job j = lastPlan.get(i);
        return new int[] {j.s, j.toStart ? 1 : 2, j.begin, j.end}[what];
    }

    int quick() {
        if (lastPlan == null) {
            return NONE;
        }
        int last = 0;
        for (Job j : lastPlan) {
            last = Math.max(last, j.end);
        }
        return last;
    }

    int change(int i, int what) {
        if (i < 0 || i >= log.size() || i < log.size() - 2000 || what < 0 || what > 2) {
            return NONE;
        }
        return log.get(i)[what];
    }

    int check() {
        int broken = 0;
        boolean lacking = false;
        boolean opposing = false;
        for (int s = 0; s < svc.size(); s++) {
            lacking |= svc.get(s).is(STARTING, UP) && lacks(s);
            opposing |= svc.get(s).is(STARTING, UP, STOPPING) && opposed(s);
        }
        broken += lacking ? 1 : 0;
        broken += opposing ? 1 : 0;
        return broken;
    }
}
