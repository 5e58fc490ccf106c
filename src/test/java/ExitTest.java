/** Promises 3 and 6: exit and cancel. */
public final class ExitTest {
    public static void main(String[] args) {
        Due due = new Due();
        numbersOverAllLevels(due);
        wrongInputs(due);
        atMostTenOfALevel(due);
        atMostThreeHundred(due);
        cancelTakesTheLatest(due);
        due.end();
    }

    private static void numbersOverAllLevels(Due due) {
        AbendRows x = new AbendRows();
        x.level(0);
        x.level(1);
        due.is("exit(2, 0, false)", x.exit(2, 0, false), 1);
        due.is("exit(1, 3, true)", x.exit(1, 3, true), 2);
        due.is("cancel(1)", x.cancel(1), 0);
        due.is("exit(2, 1, true), no number comes twice", x.exit(2, 1, true), 3);
        due.is("exit(1, 2, false)", x.exit(1, 2, false), 4);
    }

    private static void wrongInputs(Due due) {
        AbendRows x = new AbendRows();
        x.level(0);
        int[] wrongLevels = {0, -1, 2, Integer.MIN_VALUE, Integer.MAX_VALUE};
        for (int level : wrongLevels) {
            due.is("exit(" + level + ", 0, false)", x.exit(level, 0, false), -2);
            due.is("exit(" + level + ", 4, false)", x.exit(level, 4, false), -2);
            due.is("cancel(" + level + ")", x.cancel(level), -2);
        }
        int[] wrongDoes = {-1, 4, Integer.MIN_VALUE, Integer.MAX_VALUE};
        for (int does : wrongDoes) {
            due.is("exit(1, " + does + ", true)", x.exit(1, does, true), -4);
        }
        due.is("told(1, 0)", x.told(1, 0), 0);
        due.is("exit(1, 0, false)", x.exit(1, 0, false), 1);
    }

    private static void atMostTenOfALevel(Due due) {
        AbendRows x = new AbendRows();
        x.level(0);
        x.level(0);
        for (int n = 1; n <= 10; n++) {
            due.is("exit(1, 0, false)", x.exit(1, 0, false), n);
        }
        due.is("exit(1, 0, false), one too many", x.exit(1, 0, false), -1);
        due.is("exit(1, 4, false) of a full row", x.exit(1, 4, false), -4);
        due.is("exit(2, 0, false)", x.exit(2, 0, false), 11);
        due.is("cancel(1)", x.cancel(1), 9);
        due.is("exit(1, 0, false)", x.exit(1, 0, false), 12);
        due.is("exit(1, 0, false), one too many", x.exit(1, 0, false), -1);
    }

    private static void atMostThreeHundred(Due due) {
        AbendRows x = new AbendRows();
        for (int level = 1; level <= 31; level++) {
            x.level(0);
        }
        for (int n = 0; n < 300; n++) {
            due.is("exit", x.exit(n / 10 + 1, 0, false), n + 1);
        }
        due.is("exit(31, 0, false), one too many", x.exit(31, 0, false), -1);
        due.is("cancel(30)", x.cancel(30), 9);
        due.is("exit(30, 0, false), there were 300", x.exit(30, 0, false), -1);
        due.is("exit(31, 4, false)", x.exit(31, 4, false), -4);
        due.is("exit(32, 0, false)", x.exit(32, 0, false), -2);
    }

    private static void cancelTakesTheLatest(Due due) {
        AbendRows x = new AbendRows();
        x.level(0);
        x.level(1);
        due.is("cancel(1) of none", x.cancel(1), -1);
        x.exit(1, 0, false);
        x.exit(2, 1, false);
        x.exit(1, 1, false);
        x.exit(1, 2, false);
        due.is("cancel(1)", x.cancel(1), 2);
        due.is("abend(1, 5)", x.abend(1, 5), 1);
        due.is("order(0)", x.order(0), 3);
        due.is("cancel(1)", x.cancel(1), 1);
        due.is("abend(1, 5)", x.abend(1, 5), -1);
        due.is("order(0)", x.order(0), 1);
        due.is("cancel(1), its exits are lost", x.cancel(1), -1);
        due.is("cancel(2)", x.cancel(2), 0);
        due.is("cancel(2)", x.cancel(2), -1);
    }
}
