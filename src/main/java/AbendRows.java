/**
 * Abends: levels of programs with rows of exits, tasks that are restarted or not, guarded storage,
 * loops that are caught, dumps that are kept or suppressed, counts. README.md says how to use it.
 */
public final class AbendRows {
    public static final int NONE = -1;

    private static final int NO_SUCH = -2;
    private static final int NOT_SO = -4;

    private static final int MAX_LEVELS = 100;
    private static final int MAX_DEPTH = 20;
    private static final int MAX_EXITS_OF_LEVEL = 10;
    private static final int MAX_EXITS = 300;
    private static final int MAX_CODE = 9999;
    private static final int MAX_TASKS = 40;
    private static final int MAX_GUARDS = 60;
    private static final int MAX_GUARD_SIZE = 64;
    private static final int MAX_DUMPS = 50;
    private static final int MAX_CALLS = 512;

    private static final int DOES_RECOVER = 1;
    private static final int DOES_RETRY = 2;
    private static final int DOES_RECOVER_ABOVE = 3;

    private static final int CODE_STEP = 100;
    private static final int REGION_2_CODE = 1000;
    private static final int REGION_3_CODE = 4000;
    private static final int RESTART_CODES_END = 1000;
    private static final int MAX_RESTARTS = 3;
    private static final long MAX_STEPS = 1000;
    private static final int LOOP_CODE = 71;
    private static final int BROKEN_BASE = -10;

    private final Level[] levels = new Level[MAX_LEVELS];
    private int levelsMade;
    private int exitsMade;
    private final Search search = new Search();
    private final Guard[] guards = new Guard[MAX_GUARDS];
    private int guardsMade;
    private final int[] restarts = new int[MAX_TASKS + 1];
    private final long[] stepsGone = new long[MAX_TASKS + 1];
    private final DumpRow dumps = new DumpRow();
    private final CodeSet suppressed = new CodeSet();
    private final CodeLog ended = new CodeLog();

    public AbendRows() {
    }

    public int level(int above) {
        Level parent = levelOf(above);
        if (above != 0 && parent == null) {
            return NO_SUCH;
        }
        int depth = parent == null ? 1 : parent.depth + 1;
        if (levelsMade >= MAX_LEVELS || depth > MAX_DEPTH) {
            return NONE;
        }
        Level made = new Level(levelsMade + 1, parent, depth);
        levels[levelsMade] = made;
        levelsMade++;
        return made.number;
    }

    public int exit(int level, int does, boolean abends) {
        Level owner = levelOf(level);
        if (owner == null) {
            return NO_SUCH;
        }
        if (does < 0 || does > DOES_RECOVER_ABOVE) {
            return NOT_SO;
        }
        // Exits that have gone keep their numbers, so it is the made ones that count here.
        if (owner.exits >= MAX_EXITS_OF_LEVEL || exitsMade >= MAX_EXITS) {
            return NONE;
        }
        exitsMade++;
        owner.latest = new Exit(exitsMade, does, abends, owner.latest);
        owner.exits++;
        return exitsMade;
    }

    public int abend(int level, int code) {
        Level from = levelOf(level);
        if (from == null) {
            return NO_SUCH;
        }
        if (!isCode(code)) {
            return NOT_SO;
        }
        Level end = search.findEnd(from, code);
        loseExits(from, end);
        ended.add(search.code);
        return end == null ? NONE : end.number;
    }

    public int order(int i) {
        return search.askedAt(i);
    }

    public int cancel(int level) {
        Level owner = levelOf(level);
        if (owner == null) {
            return NO_SUCH;
        }
        Exit latest = owner.latest;
        if (latest == null) {
            return NONE;
        }
        owner.latest = latest.earlier;
        owner.exits--;
        return owner.exits;
    }

    public int restart(int task, int code) {
        if (!isTask(task) || !isCode(code)) {
            return NOT_SO;
        }
        boolean restarted = code < RESTART_CODES_END && restarts[task] < MAX_RESTARTS;
        if (restarted) {
            restarts[task]++;
        }
        if (!suppressed.has(code)) {
            dumps.keep(new Dump(task, code, guardsOf(task), brokenGuardsOf(task), restarted));
        }
        ended.add(code);
        return restarted ? 1 : 0;
    }

    public int guard(int task, int size) {
        if (!isTask(task) || size < 1 || size > MAX_GUARD_SIZE) {
            return NOT_SO;
        }
        if (guardsMade >= MAX_GUARDS) {
            return NONE;
        }
        guards[guardsMade] = new Guard(task, size);
        guardsMade++;
        return guardsMade;
    }

    public int write(int guard, int i) {
        Guard written = guardOf(guard);
        if (written == null) {
            return NO_SUCH;
        }
        if (i < NONE || i > written.size) {
            return NOT_SO;
        }
        if (i == NONE || i == written.size) {
            written.broken = true;
        }
        return written.broken ? 0 : 1;
    }

    public int free(int guard) {
        Guard given = guardOf(guard);
        if (given == null) {
            return NO_SUCH;
        }
        given.freed = true;
        return given.broken ? BROKEN_BASE - given.task : 1;
    }

    public int dump(int task, int i, int what) {
        Dump found = dumps.find(task, i);
        if (found == null) {
            return NONE;
        }
        switch (what) {
            case 0:
                return found.code;
            case 1:
                return found.guards;
            case 2:
                return found.brokenGuards;
            case 3:
                return found.restarted ? 1 : 0;
            default:
                return NONE;
        }
    }

    public int loop(int task, long steps) {
        if (!isTask(task) || steps < 0) {
            return NOT_SO;
        }
        // The sum could wrap round, the difference cannot: at most MAX_STEPS have gone before.
        if (steps > MAX_STEPS - stepsGone[task]) {
            stepsGone[task] = 0;
            return LOOP_CODE;
        }
        stepsGone[task] += steps;
        return 0;
    }

    public int suppress(int code, boolean on) {
        if (!isCode(code)) {
            return NOT_SO;
        }
        boolean before = suppressed.has(code);
        suppressed.put(code, on);
        return before ? 1 : 0;
    }

    public int count(int code) {
        return ended.timesOf(code);
    }

    public int region(int code) {
        if (!isCode(code)) {
            return NOT_SO;
        }
        if (code < REGION_2_CODE) {
            return 1;
        }
        return code < REGION_3_CODE ? 2 : 3;
    }

    public int told(int level, int what) {
        Level asked = levelOf(level);
        if (asked == null) {
            return NONE;
        }
        switch (what) {
            case 0:
                return asked.exits;
            case 1:
                return asked.depth;
            case 2:
                return asked.above == null ? 0 : asked.above.number;
            default:
                return NONE;
        }
    }

    private static boolean isCode(int code) {
        return code >= 1 && code <= MAX_CODE;
    }

    private static boolean isTask(int task) {
        return task >= 1 && task <= MAX_TASKS;
    }

    /** Null when there is no such level. */
    private Level levelOf(int number) {
        return number >= 1 && number <= levelsMade ? levels[number - 1] : null;
    }

    /** Null when there is no such guard, or it is free. */
    private Guard guardOf(int number) {
        Guard found = number >= 1 && number <= guardsMade ? guards[number - 1] : null;
        return found == null || found.freed ? null : found;
    }

    private int guardsOf(int task) {
        int held = 0;
        for (Guard each : guards) {
            if (each != null && each.isHeldBy(task)) {
                held++;
            }
        }
        return held;
    }

    private int brokenGuardsOf(int task) {
        int broken = 0;
        for (Guard each : guards) {
            if (each != null && each.isHeldBy(task) && each.broken) {
                broken++;
            }
        }
        return broken;
    }

    /**
     * A retry ends where the abend was, so that no level is below its end; one that is unhandled
     * has no end (null), so that all on the way are.
     */
    private static void loseExits(Level from, Level end) {
        for (Level at = from; at != null && at != end; at = at.above) {
            at.latest = null;
            at.exits = 0;
        }
    }

    private static final class Level {
        final int number;
        final Level above;
        final int depth;
        Exit latest;
        int exits;

        Level(int number, Level above, int depth) {
            this.number = number;
            this.above = above;
            this.depth = depth;
        }
    }

    /** A level's row is a chain from its latest exit to its first. */
    private static final class Exit {
        final int number;
        final int does;
        final boolean abends;
        final Exit earlier;
        boolean retried;

        Exit(int number, int does, boolean abends, Exit earlier) {
            this.number = number;
            this.does = does;
            this.abends = abends;
            this.earlier = earlier;
        }
    }

    /** The latest abend: which exits it asked, and the code that it has come to. */
    private static final class Search {
        final int[] asked = new int[MAX_DEPTH * MAX_EXITS_OF_LEVEL];
        int askedCount;
        int code;

        /** Null when it is unhandled. */
        Level findEnd(Level from, int firstCode) {
            askedCount = 0;
            code = firstCode;
            for (Level at = from; at != null; at = at.above) {
                for (Exit each = at.latest; each != null; each = each.earlier) {
                    Level end = ask(each, at, from);
                    if (end != null) {
                        return end;
                    }
                }
            }
            return null;
        }

        /** The level at which that exit ends the abend; null when the search goes on. */
        Level ask(Exit exit, Level owner, Level from) {
            note(exit.number);
            if (exit.abends) {
                code = Math.min(code + CODE_STEP, MAX_CODE);
                return null;
            }
            switch (exit.does) {
                case DOES_RECOVER:
                    return owner;
                case DOES_RETRY:
                    return retriesNow(exit) ? from : null;
                case DOES_RECOVER_ABOVE:
                    return owner.above;
                default:
                    return null;
            }
        }

        static boolean retriesNow(Exit exit) {
            boolean first = !exit.retried;
            exit.retried = true;
            return first;
        }

        void note(int exitNumber) {
            if (askedCount < asked.length) {
                asked[askedCount] = exitNumber;
                askedCount++;
            }
        }

        int askedAt(int i) {
            return i >= 0 && i < askedCount ? asked[i] : 0;
        }
    }

    private static final class Guard {
        final int task;
        final int size;
        boolean broken;
        boolean freed;

        Guard(int task, int size) {
            this.task = task;
            this.size = size;
        }

        boolean isHeldBy(int asked) {
            return task == asked && !freed;
        }
    }

    private static final class Dump {
        final int task;
        final int code;
        final int guards;
        final int brokenGuards;
        final boolean restarted;

        Dump(int task, int code, int guards, int brokenGuards, boolean restarted) {
            this.task = task;
            this.code = code;
            this.guards = guards;
            this.brokenGuards = brokenGuards;
            this.restarted = restarted;
        }
    }

    /** The last dumps of all tasks, in a ring: a new one takes the place of the oldest. */
    private static final class DumpRow {
        final Dump[] ring = new Dump[MAX_DUMPS];
        int next;

        void keep(Dump dump) {
            ring[next] = dump;
            next = (next + 1) % MAX_DUMPS;
        }

        /** Null when the task has no i-th one. */
        Dump find(int task, int i) {
            int seen = 0;
            for (int k = 0; k < MAX_DUMPS; k++) {
                Dump each = ring[(next + k) % MAX_DUMPS];
                if (each != null && each.task == task) {
                    if (seen == i) {
                        return each;
                    }
                    seen++;
                }
            }
            return null;
        }
    }

    /** A bit for each code, since a flag for each would make every object ten thousand large. */
    private static final class CodeSet {
        static final int WORD = 64;
        final long[] words = new long[MAX_CODE / WORD + 1];

        boolean has(int code) {
            return isCode(code) && (words[code / WORD] & bitOf(code)) != 0;
        }

        void put(int code, boolean on) {
            if (!isCode(code)) {
                return;
            }
            long others = words[code / WORD] & ~bitOf(code);
            words[code / WORD] = on ? others | bitOf(code) : others;
        }

        static long bitOf(int code) {
            return 1L << (code % WORD);
        }
    }

    /** The codes of all ends, one for each call at most: beyond the promised calls none is added. */
    private static final class CodeLog {
        final int[] codes = new int[MAX_CALLS];
        int size;

        void add(int code) {
            if (size < MAX_CALLS) {
                codes[size] = code;
                size++;
            }
        }

        int timesOf(int code) {
            int times = 0;
            for (int k = 0; k < size; k++) {
                if (codes[k] == code) {
                    times++;
                }
            }
            return times;
        }
    }
}
