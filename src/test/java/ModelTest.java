import java.util.ArrayList;
import java.util.HashMap;
import java.util.HashSet;
import java.util.List;
import java.util.Map;
import java.util.Random;
import java.util.Set;
import java.util.TreeMap;

/** Runs of drawn calls, held against a plain second telling of the document (promises 1 to 16). */
public final class ModelTest {
    private static final int RUNS = 600;
    private static final int CALLS = 512;

    public static void main(String[] args) {
        Due due = new Due();
        for (int run = 0; run < RUNS; run++) {
            Random random = new Random(run);
            AbendRows x = new AbendRows();
            Model m = new Model();
            int kind = run % 6;
            for (int call = 0; call < CALLS; call++) {
                oneCall(due, random, x, m, kind);
            }
        }
        due.end();
    }

    /** Some kinds of runs keep to few methods, so that their limits are reached within 512 calls. */
    private static int drawMethod(Random random, int kind) {
        int[][] methods = {
            {0, 1, 2, 3, 4, 5, 6, 7, 8, 9, 10, 11, 12, 13, 14},
            {0, 0, 1, 1, 1, 1, 1, 2, 3, 14},
            {0, 1, 1, 1, 1, 2, 3, 3, 4, 12, 14},
            {5, 5, 5, 9, 9, 11, 12},
            {5, 6, 6, 7, 7, 7, 8, 9, 9},
            {0, 0, 0, 0, 1, 2, 14},
        };
        return methods[kind][random.nextInt(methods[kind].length)];
    }

    private static void oneCall(Due due, Random r, AbendRows x, Model m, int kind) {
        int a = number(r, m.levels.size());
        int g = number(r, m.guards.size());
        int task = r.nextInt(20) == 0 ? number(r, 40) : 1 + r.nextInt(3);
        int code = r.nextInt(20) == 0 ? number(r, 9999) : new int[] {5, 105, 205, 999, 1000, 9899, 9950}[r.nextInt(7)];
        int does = r.nextInt(20) == 0 ? number(r, 3) : (r.nextInt(3) == 0 ? 1 + r.nextInt(3) : 0);
        boolean flag = r.nextInt(4) == 0;
        int what = r.nextInt(6) - 1;
        switch (drawMethod(r, kind)) {
            case 0:
                int above = r.nextInt(3) == 0 ? m.levels.size() : r.nextInt(8) == 0 ? a : r.nextInt(m.levels.size() + 1);
                due.is("level(" + above + ")", x.level(above), m.level(above));
                break;
            case 1:
                due.is("exit(" + a + ", " + does + ", " + flag + ")", x.exit(a, does, flag), m.exit(a, does, flag));
                break;
            case 2:
                due.is("abend(" + a + ", " + code + ")", x.abend(a, code), m.abend(a, code));
                break;
            case 3:
                int i = number(r, m.order.size());
                due.is("order(" + i + ")", x.order(i), m.order(i));
                break;
            case 4:
                due.is("cancel(" + a + ")", x.cancel(a), m.cancel(a));
                break;
            case 5:
                due.is("restart(" + task + ", " + code + ")", x.restart(task, code), m.restart(task, code));
                break;
            case 6:
                int size = r.nextInt(4) == 0 ? number(r, 64) : 1 + r.nextInt(4);
                due.is("guard(" + task + ", " + size + ")", x.guard(task, size), m.guard(task, size));
                break;
            case 7:
                int place = r.nextInt(8) - 2;
                due.is("write(" + g + ", " + place + ")", x.write(g, place), m.write(g, place));
                break;
            case 8:
                due.is("free(" + g + ")", x.free(g), m.free(g));
                break;
            case 9:
                int nth = number(r, m.dumps.size() / 3);
                due.is("dump(" + task + ", " + nth + ", " + what + ")", x.dump(task, nth, what), m.dump(task, nth, what));
                break;
            case 10:
                long steps = r.nextInt(20) == 0 ? r.nextLong() : r.nextInt(700);
                due.is("loop(" + task + ", " + steps + ")", x.loop(task, steps), m.loop(task, steps));
                break;
            case 11:
                due.is("suppress(" + code + ", " + flag + ")", x.suppress(code, flag), m.suppress(code, flag));
                break;
            case 12:
                due.is("count(" + code + ")", x.count(code), m.count(code));
                break;
            case 13:
                due.is("region(" + code + ")", x.region(code), m.region(code));
                break;
            default:
                due.is("told(" + a + ", " + what + ")", x.told(a, what), m.told(a, what));
        }
    }

    /** Mostly 1 to most, now and then an edge or far beyond. */
    private static int number(Random r, int most) {
        int[] edges = {0, -1, most, most + 1, Integer.MIN_VALUE, Integer.MAX_VALUE, r.nextInt()};
        return r.nextInt(12) == 0 || most <= 0 ? edges[r.nextInt(edges.length)] : 1 + r.nextInt(most);
    }

    private static final class Model {
        final List<int[]> levels = new ArrayList<>();
        final List<List<Integer>> rows = new ArrayList<>();
        final Map<Integer, Integer> doing = new TreeMap<>();
        final Set<Integer> abending = new HashSet<>();
        final Set<Integer> retried = new HashSet<>();
        final List<Integer> order = new ArrayList<>();
        final List<int[]> guards = new ArrayList<>();
        final List<int[]> dumps = new ArrayList<>();
        final Map<Integer, Integer> restarts = new HashMap<>();
        final Map<Integer, Long> steps = new HashMap<>();
        final Set<Integer> suppressed = new HashSet<>();
        final Map<Integer, Integer> counts = new HashMap<>();

        boolean in(int n, int low, int high) {
            return low <= n && n <= high;
        }

        int depth(int level) {
            return level == 0 ? 0 : 1 + depth(levels.get(level - 1)[0]);
        }

        int above(int level) {
            return levels.get(level - 1)[0];
        }

        int level(int above) {
            if (!in(above, 0, levels.size())) return -2;
            if (levels.size() == 100 || depth(above) == 20) return -1;
            levels.add(new int[] {above});
            rows.add(new ArrayList<>());
            return levels.size();
        }

        int exit(int level, int does, boolean abends) {
            if (!in(level, 1, levels.size())) return -2;
            if (!in(does, 0, 3)) return -4;
            if (rows.get(level - 1).size() == 10 || doing.size() == 300) return -1;
            int number = doing.size() + 1;
            doing.put(number, does);
            if (abends) abending.add(number);
            rows.get(level - 1).add(0, number);
            return number;
        }

        int abend(int level, int code) {
            if (!in(level, 1, levels.size())) return -2;
            if (!in(code, 1, 9999)) return -4;
            order.clear();
            List<int[]> ahead = new ArrayList<>();
            for (int at = level; at != 0; at = above(at)) {
                for (int exit : rows.get(at - 1)) ahead.add(new int[] {exit, at});
            }
            int end = 0;
            for (int[] each : ahead) {
                int does = doing.get(each[0]);
                order.add(each[0]);
                if (abending.contains(each[0])) code = code > 9899 ? 9999 : code + 100;
                else if (does == 1) end = each[1];
                else if (does == 2 && retried.add(each[0])) end = level;
                else if (does == 3) end = above(each[1]);
                if (end != 0) break;
            }
            for (int at = level; at != end; at = above(at)) rows.get(at - 1).clear();
            counts.merge(code, 1, Integer::sum);
            return end == 0 ? -1 : end;
        }

        int order(int i) {
            return in(i, 0, order.size() - 1) ? order.get(i) : 0;
        }

        int cancel(int level) {
            if (!in(level, 1, levels.size())) return -2;
            List<Integer> row = rows.get(level - 1);
            if (row.isEmpty()) return -1;
            row.remove(0);
            return row.size();
        }

        int restart(int task, int code) {
            if (!in(task, 1, 40) || !in(code, 1, 9999)) return -4;
            int before = restarts.getOrDefault(task, 0);
            int answer = code < 1000 && before <= 2 ? 1 : 0;
            restarts.put(task, before + answer);
            counts.merge(code, 1, Integer::sum);
            if (!suppressed.contains(code)) {
                int held = 0;
                int broken = 0;
                for (int[] guard : guards) {
                    if (guard[0] == task && guard[3] == 0) {
                        held++;
                        broken += guard[2];
                    }
                }
                dumps.add(new int[] {code, held, broken, answer, task});
                if (dumps.size() > 50) dumps.remove(0);
            }
            return answer;
        }

        int guard(int task, int size) {
            if (!in(task, 1, 40) || !in(size, 1, 64)) return -4;
            if (guards.size() == 60) return -1;
            guards.add(new int[] {task, size, 0, 0});
            return guards.size();
        }

        int write(int guard, int i) {
            if (!in(guard, 1, guards.size()) || guards.get(guard - 1)[3] == 1) return -2;
            int[] written = guards.get(guard - 1);
            if (!in(i, -1, written[1])) return -4;
            if (!in(i, 0, written[1] - 1)) written[2] = 1;
            return 1 - written[2];
        }

        int free(int guard) {
            if (!in(guard, 1, guards.size()) || guards.get(guard - 1)[3] == 1) return -2;
            int[] freed = guards.get(guard - 1);
            freed[3] = 1;
            return freed[2] == 1 ? -10 - freed[0] : 1;
        }

        int dump(int task, int i, int what) {
            List<int[]> own = new ArrayList<>();
            for (int[] each : dumps) {
                if (each[4] == task) own.add(each);
            }
            return in(i, 0, own.size() - 1) && in(what, 0, 3) ? own.get(i)[what] : -1;
        }

        int loop(int task, long more) {
            if (!in(task, 1, 40) || more < 0) return -4;
            long before = steps.getOrDefault(task, 0L);
            boolean caught = more > 1000 || before + more > 1000;
            steps.put(task, caught ? 0 : before + more);
            return caught ? 71 : 0;
        }

        int suppress(int code, boolean on) {
            if (!in(code, 1, 9999)) return -4;
            int before = suppressed.contains(code) ? 1 : 0;
            if (on) suppressed.add(code);
            else suppressed.remove(code);
            return before;
        }

        int count(int code) {
            return counts.getOrDefault(code, 0);
        }

        int region(int code) {
            return !in(code, 1, 9999) ? -4 : code < 1000 ? 1 : code < 4000 ? 2 : 3;
        }

        int told(int level, int what) {
            if (!in(level, 1, levels.size()) || !in(what, 0, 2)) return -1;
            return what == 0 ? rows.get(level - 1).size() : what == 1 ? depth(level) : above(level);
        }
    }
}
