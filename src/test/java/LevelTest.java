/** Promises 2 and 16: level and told. */
public final class LevelTest {
    public static void main(String[] args) {
        Due due = new Due();
        numbersAndWhatIsTold(due);
        noSuchLevel(due);
        atMostTwentyDeep(due);
        atMostHundred(due);
        exitsAreTold(due);
        due.end();
    }

    private static void numbersAndWhatIsTold(Due due) {
        AbendRows x = new AbendRows();
        due.is("level(0)", x.level(0), 1);
        due.is("level(0)", x.level(0), 2);
        due.is("level(1)", x.level(1), 3);
        due.is("level(3)", x.level(3), 4);
        due.is("level(1)", x.level(1), 5);
        int[][] depthAndAbove = {{1, 0}, {1, 0}, {2, 1}, {3, 3}, {2, 1}};
        for (int n = 1; n <= 5; n++) {
            due.is("told(" + n + ", 0)", x.told(n, 0), 0);
            due.is("told(" + n + ", 1)", x.told(n, 1), depthAndAbove[n - 1][0]);
            due.is("told(" + n + ", 2)", x.told(n, 2), depthAndAbove[n - 1][1]);
        }
    }

    private static void noSuchLevel(Due due) {
        AbendRows x = new AbendRows();
        due.is("level(1)", x.level(1), -2);
        due.is("level(-1)", x.level(-1), -2);
        due.is("level(0)", x.level(0), 1);
        due.is("level(2)", x.level(2), -2);
        due.is("level(MIN)", x.level(Integer.MIN_VALUE), -2);
        due.is("level(MAX)", x.level(Integer.MAX_VALUE), -2);
        due.is("level(1)", x.level(1), 2);
        int[] wrongLevels = {0, -1, 3, Integer.MIN_VALUE, Integer.MAX_VALUE};
        for (int level : wrongLevels) {
            due.is("told(" + level + ", 0)", x.told(level, 0), -1);
            due.is("told(" + level + ", 9)", x.told(level, 9), -1);
        }
        int[] wrongWhats = {-1, 3, Integer.MIN_VALUE, Integer.MAX_VALUE};
        for (int what : wrongWhats) {
            due.is("told(1, " + what + ")", x.told(1, what), -1);
        }
    }

    private static void atMostTwentyDeep(Due due) {
        AbendRows x = new AbendRows();
        for (int n = 1; n <= 20; n++) {
            due.is("level(" + (n - 1) + ")", x.level(n - 1), n);
        }
        due.is("told(20, 1)", x.told(20, 1), 20);
        due.is("level(20), too deep", x.level(20), -1);
        due.is("level(21), refused above", x.level(21), -2);
        due.is("level(19)", x.level(19), 21);
        due.is("level(21), too deep", x.level(21), -1);
        due.is("level(0)", x.level(0), 22);
    }

    private static void atMostHundred(Due due) {
        AbendRows x = new AbendRows();
        for (int n = 1; n <= 100; n++) {
            due.is("level", x.level(n % 3 == 0 ? 1 : 0), n);
        }
        due.is("level(0), one too many", x.level(0), -1);
        due.is("level(1), one too many", x.level(1), -1);
        due.is("level(101)", x.level(101), -2);
        due.is("told(100, 1)", x.told(100, 1), 1);
        due.is("told(99, 2)", x.told(99, 2), 1);
        due.is("told(101, 1)", x.told(101, 1), -1);
        due.is("exit(100, 1, false)", x.exit(100, 1, false), 1);
        due.is("abend(100, 1)", x.abend(100, 1), 100);
    }

    private static void exitsAreTold(Due due) {
        AbendRows x = new AbendRows();
        x.level(0);
        x.level(1);
        for (int n = 1; n <= 10; n++) {
            x.exit(2, 0, false);
            due.is("told(2, 0)", x.told(2, 0), n);
        }
        x.exit(2, 0, false);
        due.is("told(2, 0) of a full row", x.told(2, 0), 10);
        due.is("told(1, 0)", x.told(1, 0), 0);
    }
}
