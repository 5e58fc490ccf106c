/** Promises 8, 9 and 10: guard, write and free. */
public final class GuardTest {
    public static void main(String[] args) {
        Due due = new Due();
        numbers(due);
        atMostSixty(due);
        writesWithinAndOnEdges(due);
        noSuchGuard(due);
        freeTellsWhoWroteBeyond(due);
        due.end();
    }

    private static void numbers(Due due) {
        AbendRows x = new AbendRows();
        due.is("guard(1, 1)", x.guard(1, 1), 1);
        due.is("guard(40, 64)", x.guard(40, 64), 2);
        int[] wrongTasks = {0, -1, 41, Integer.MIN_VALUE, Integer.MAX_VALUE};
        for (int task : wrongTasks) {
            due.is("guard(" + task + ", 1)", x.guard(task, 1), -4);
        }
        int[] wrongSizes = {0, -1, 65, Integer.MIN_VALUE, Integer.MAX_VALUE};
        for (int size : wrongSizes) {
            due.is("guard(1, " + size + ")", x.guard(1, size), -4);
        }
        due.is("guard(1, 1)", x.guard(1, 1), 3);
        due.is("free(3)", x.free(3), 1);
        due.is("guard(1, 1), no number comes twice", x.guard(1, 1), 4);
    }

    private static void atMostSixty(Due due) {
        AbendRows x = new AbendRows();
        for (int n = 1; n <= 60; n++) {
            due.is("guard", x.guard(n % 40 + 1, n), n);
        }
        due.is("guard(1, 1), one too many", x.guard(1, 1), -1);
        due.is("guard(0, 1)", x.guard(0, 1), -4);
        due.is("write(60, 59)", x.write(60, 59), 1);
        due.is("write(60, 60)", x.write(60, 60), 0);
        due.is("write(61, 0)", x.write(61, 0), -2);
        due.is("free(60)", x.free(60), -31);
        due.is("guard(1, 1), a free one is one of the 60", x.guard(1, 1), -1);
    }

    private static void writesWithinAndOnEdges(Due due) {
        AbendRows x = new AbendRows();
        x.guard(1, 64);
        x.guard(1, 1);
        x.guard(2, 64);
        for (int i = 0; i < 64; i++) {
            due.is("write(1, " + i + ")", x.write(1, i), 1);
        }
        int[] beyond = {-2, 65, Integer.MIN_VALUE, Integer.MAX_VALUE};
        for (int i : beyond) {
            due.is("write(1, " + i + ")", x.write(1, i), -4);
        }
        due.is("write(1, 0), none of these broke it", x.write(1, 0), 1);
        due.is("write(1, -1)", x.write(1, -1), 0);
        due.is("write(1, 0)", x.write(1, 0), 0);
        due.is("write(1, -1)", x.write(1, -1), 0);
        due.is("write(1, 64)", x.write(1, 64), 0);
        due.is("write(1, 65)", x.write(1, 65), -4);
        due.is("write(2, 0)", x.write(2, 0), 1);
        due.is("write(2, 1)", x.write(2, 1), 0);
        due.is("write(2, 0)", x.write(2, 0), 0);
        due.is("write(2, 2)", x.write(2, 2), -4);
        due.is("write(3, 1)", x.write(3, 1), 1);
    }

    private static void noSuchGuard(Due due) {
        AbendRows x = new AbendRows();
        due.is("write(1, 0)", x.write(1, 0), -2);
        due.is("free(1)", x.free(1), -2);
        x.guard(1, 1);
        int[] wrongGuards = {0, -1, 2, Integer.MIN_VALUE, Integer.MAX_VALUE};
        for (int guard : wrongGuards) {
            due.is("write(" + guard + ", 0)", x.write(guard, 0), -2);
            due.is("write(" + guard + ", 9)", x.write(guard, 9), -2);
            due.is("free(" + guard + ")", x.free(guard), -2);
        }
        due.is("write(1, 0)", x.write(1, 0), 1);
    }

    private static void freeTellsWhoWroteBeyond(Due due) {
        AbendRows x = new AbendRows();
        x.guard(7, 3);
        x.guard(7, 3);
        x.guard(40, 3);
        x.guard(1, 3);
        x.write(2, 3);
        x.write(3, -1);
        x.write(4, 4);
        due.is("free(1)", x.free(1), 1);
        due.is("free(2)", x.free(2), -17);
        due.is("free(3)", x.free(3), -50);
        due.is("free(4)", x.free(4), 1);
        for (int guard = 1; guard <= 4; guard++) {
            due.is("free(" + guard + ") again", x.free(guard), -2);
            due.is("write(" + guard + ", 0)", x.write(guard, 0), -2);
            due.is("write(" + guard + ", 9)", x.write(guard, 9), -2);
        }
    }
}
