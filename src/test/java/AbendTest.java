/** Promises 4 and 5: abend and order. */
public final class AbendTest {
    public static void main(String[] args) {
        Due due = new Due();
        latestFirstThenAbove(due);
        goingOnRecoveringNowhere(due);
        retryOnceInAll(due);
        recoverAtTheLevelAbove(due);
        exitsThatAbendThemselves(due);
        codesAreHeld(due);
        whoLosesExits(due);
        wrongInputs(due);
        longestOrder(due);
        due.end();
    }

    private static AbendRows chain(int levels) {
        AbendRows x = new AbendRows();
        for (int n = 0; n < levels; n++) {
            x.level(n);
        }
        return x;
    }

    private static void orderIs(Due due, AbendRows x, int... exits) {
        for (int i = 0; i < exits.length; i++) {
            due.is("order(" + i + ")", x.order(i), exits[i]);
        }
        due.is("order(" + exits.length + ")", x.order(exits.length), 0);
        due.is("order(-1)", x.order(-1), 0);
        due.is("order(MIN)", x.order(Integer.MIN_VALUE), 0);
        due.is("order(MAX)", x.order(Integer.MAX_VALUE), 0);
    }

    private static void latestFirstThenAbove(Due due) {
        AbendRows x = chain(3);
        x.exit(1, 0, false);
        x.exit(3, 0, false);
        x.exit(2, 1, false);
        x.exit(2, 0, false);
        x.exit(3, 0, false);
        due.is("abend(3, 5)", x.abend(3, 5), 2);
        orderIs(due, x, 5, 2, 4, 3);
        due.is("abend(2, 5)", x.abend(2, 5), 2);
        orderIs(due, x, 4, 3);
        due.is("abend(1, 5)", x.abend(1, 5), -1);
        orderIs(due, x, 1);
        due.is("abend(1, 5)", x.abend(1, 5), -1);
        orderIs(due, x);
    }

    private static void goingOnRecoveringNowhere(Due due) {
        AbendRows x = chain(2);
        due.is("abend(2, 1)", x.abend(2, 1), -1);
        x.exit(1, 0, false);
        x.exit(2, 0, false);
        due.is("abend(2, 1)", x.abend(2, 1), -1);
        orderIs(due, x, 2, 1);
        due.is("count(1)", x.count(1), 2);
    }

    private static void retryOnceInAll(Due due) {
        AbendRows x = chain(3);
        x.exit(1, 1, false);
        x.exit(1, 2, false);
        x.exit(1, 2, false);
        due.is("abend(3, 5)", x.abend(3, 5), 3);
        orderIs(due, x, 3);
        due.is("abend(2, 5)", x.abend(2, 5), 2);
        orderIs(due, x, 3, 2);
        due.is("abend(3, 5)", x.abend(3, 5), 1);
        orderIs(due, x, 3, 2, 1);
        due.is("abend(1, 5)", x.abend(1, 5), 1);
        orderIs(due, x, 3, 2, 1);
        x.exit(1, 2, false);
        due.is("abend(2, 5), a new exit retries", x.abend(2, 5), 2);
        due.is("count(5)", x.count(5), 5);
    }

    private static void recoverAtTheLevelAbove(Due due) {
        AbendRows x = chain(3);
        x.exit(1, 1, false);
        x.exit(1, 3, false);
        x.exit(2, 3, false);
        x.exit(3, 3, false);
        due.is("abend(3, 5)", x.abend(3, 5), 2);
        orderIs(due, x, 4);
        due.is("told(3, 0)", x.told(3, 0), 0);
        due.is("told(2, 0)", x.told(2, 0), 1);
        due.is("abend(3, 5)", x.abend(3, 5), 1);
        orderIs(due, x, 3);
        due.is("told(2, 0)", x.told(2, 0), 0);
        due.is("told(1, 0)", x.told(1, 0), 2);
        due.is("abend(3, 5), none above: it goes on", x.abend(3, 5), 1);
        orderIs(due, x, 2, 1);
        due.is("told(1, 0)", x.told(1, 0), 2);
    }

    private static void exitsThatAbendThemselves(Due due) {
        AbendRows x = chain(2);
        x.exit(1, 1, false);
        for (int does = 0; does <= 3; does++) {
            x.exit(2, does, true);
        }
        due.is("abend(2, 5)", x.abend(2, 5), 1);
        orderIs(due, x, 5, 4, 3, 2, 1);
        due.is("count(405)", x.count(405), 1);
        int[] onTheWay = {5, 105, 205, 305, 505};
        for (int code : onTheWay) {
            due.is("count(" + code + ")", x.count(code), 0);
        }
    }

    private static void codesAreHeld(Due due) {
        int[][] codeAndEnd = {{9798, 9998}, {9799, 9999}, {9800, 9999}, {9899, 9999}, {9999, 9999}, {1, 201}};
        for (int[] pair : codeAndEnd) {
            AbendRows x = chain(1);
            x.exit(1, 1, false);
            x.exit(1, 0, true);
            x.exit(1, 0, true);
            due.is("abend(1, " + pair[0] + ")", x.abend(1, pair[0]), 1);
            due.is("count(" + pair[1] + ")", x.count(pair[1]), 1);
            due.is("abend(1, " + pair[0] + ")", x.abend(1, pair[0]), 1);
            due.is("count(" + pair[1] + ")", x.count(pair[1]), 2);
        }
    }

    private static AbendRows fork() {
        AbendRows x = chain(4);
        x.level(2);
        for (int level = 1; level <= 5; level++) {
            x.exit(level, 0, false);
        }
        return x;
    }

    private static void exitsAre(Due due, AbendRows x, int... exits) {
        for (int i = 0; i < exits.length; i++) {
            due.is("told(" + (i + 1) + ", 0)", x.told(i + 1, 0), exits[i]);
        }
    }

    private static void whoLosesExits(Due due) {
        AbendRows recovered = fork();
        recovered.exit(2, 1, false);
        due.is("abend(3, 5)", recovered.abend(3, 5), 2);
        exitsAre(due, recovered, 1, 2, 0, 1, 1);

        AbendRows recoveredAbove = fork();
        recoveredAbove.exit(3, 3, false);
        due.is("abend(4, 5)", recoveredAbove.abend(4, 5), 2);
        exitsAre(due, recoveredAbove, 1, 1, 0, 0, 1);

        AbendRows retried = fork();
        retried.exit(1, 2, false);
        due.is("abend(4, 5)", retried.abend(4, 5), 4);
        exitsAre(due, retried, 2, 1, 1, 1, 1);

        AbendRows unhandled = fork();
        due.is("abend(3, 5)", unhandled.abend(3, 5), -1);
        exitsAre(due, unhandled, 0, 0, 0, 1, 1);
    }

    private static void wrongInputs(Due due) {
        AbendRows x = chain(1);
        x.exit(1, 0, false);
        x.exit(1, 1, false);
        x.abend(1, 5);
        int[] wrongLevels = {0, -1, 2, Integer.MIN_VALUE, Integer.MAX_VALUE};
        for (int level : wrongLevels) {
            due.is("abend(" + level + ", 5)", x.abend(level, 5), -2);
            due.is("abend(" + level + ", 0)", x.abend(level, 0), -2);
        }
        int[] wrongCodes = {0, -1, 10000, Integer.MIN_VALUE, Integer.MAX_VALUE};
        for (int code : wrongCodes) {
            due.is("abend(1, " + code + ")", x.abend(1, code), -4);
            due.is("count(" + code + ")", x.count(code), 0);
        }
        due.is("count(5)", x.count(5), 1);
        due.is("told(1, 0)", x.told(1, 0), 2);
        orderIs(due, x, 2);
        due.is("abend(1, 1)", x.abend(1, 1), 1);
        due.is("abend(1, 9999)", x.abend(1, 9999), 1);
    }

    private static void longestOrder(Due due) {
        AbendRows x = chain(20);
        for (int n = 0; n < 200; n++) {
            x.exit(n / 10 + 1, 0, n % 2 == 0);
        }
        due.is("abend(20, 1)", x.abend(20, 1), -1);
        for (int i = 0; i < 200; i++) {
            due.is("order(" + i + ")", x.order(i), 200 - i);
        }
        due.is("order(200)", x.order(200), 0);
        due.is("count(9999)", x.count(9999), 1);
        due.is("told(1, 0)", x.told(1, 0), 0);
        due.is("told(20, 0)", x.told(20, 0), 0);
    }
}
