/** Promise 12: loop. */
public final class LoopTest {
    public static void main(String[] args) {
        Due due = new Due();
        stepsAddUp(due);
        longSteps(due);
        wrongInputs(due);
        due.end();
    }

    private static void stepsAddUp(Due due) {
        AbendRows x = new AbendRows();
        due.is("loop(1, 0)", x.loop(1, 0), 0);
        due.is("loop(1, 1000)", x.loop(1, 1000), 0);
        due.is("loop(1, 0)", x.loop(1, 0), 0);
        due.is("loop(2, 1)", x.loop(2, 1), 0);
        due.is("loop(1, 1)", x.loop(1, 1), 71);
        due.is("loop(1, 999)", x.loop(1, 999), 0);
        due.is("loop(1, 1)", x.loop(1, 1), 0);
        due.is("loop(1, 500)", x.loop(1, 500), 71);
        due.is("loop(1, 1000), none is left over", x.loop(1, 1000), 0);
        due.is("loop(2, 999)", x.loop(2, 999), 0);
        due.is("loop(2, 1)", x.loop(2, 1), 71);
        due.is("loop(40, 1001)", x.loop(40, 1001), 71);
        due.is("loop(40, 1000)", x.loop(40, 1000), 0);
        x.restart(40, 5);
        due.is("loop(40, 1), a restart is no beginning", x.loop(40, 1), 71);
    }

    private static void longSteps(Due due) {
        AbendRows x = new AbendRows();
        due.is("loop(1, 1)", x.loop(1, 1), 0);
        due.is("loop(1, MAX), the sum would wrap round", x.loop(1, Long.MAX_VALUE), 71);
        due.is("loop(1, MAX)", x.loop(1, Long.MAX_VALUE), 71);
        due.is("loop(1, 2 to the 32)", x.loop(1, 1L << 32), 71);
        due.is("loop(1, 1000)", x.loop(1, 1000), 0);
        due.is("loop(1, MAX)", x.loop(1, Long.MAX_VALUE), 71);
    }

    private static void wrongInputs(Due due) {
        AbendRows x = new AbendRows();
        x.loop(1, 1000);
        due.is("loop(1, -1)", x.loop(1, -1), -4);
        due.is("loop(1, MIN)", x.loop(1, Long.MIN_VALUE), -4);
        int[] wrongTasks = {0, -1, 41, Integer.MIN_VALUE, Integer.MAX_VALUE};
        for (int task : wrongTasks) {
            due.is("loop(" + task + ", 1)", x.loop(task, 1), -4);
            due.is("loop(" + task + ", 1001)", x.loop(task, 1001), -4);
        }
        due.is("loop(1, 0)", x.loop(1, 0), 0);
        due.is("loop(1, 1)", x.loop(1, 1), 71);
    }
}
