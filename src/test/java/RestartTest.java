/** Promises 7, 11, 13 and 14: restart, dump, suppress and count. */
public final class RestartTest {
    public static void main(String[] args) {
        Due due = new Due();
        restartedThreeTimesAtMost(due);
        codesThatRestart(due);
        wrongInputs(due);
        dumpsTellWhatWasThen(due);
        dumpsOfEachTask(due);
        theLastFiftyDumps(due);
        suppressedDumps(due);
        everyCodeHasItsOwnSwitch(due);
        countsOfAbendsAndRestarts(due);
        due.end();
    }

    private static void restartedThreeTimesAtMost(Due due) {
        AbendRows x = new AbendRows();
        due.is("restart(1, 1000)", x.restart(1, 1000), 0);
        due.is("restart(1, 5)", x.restart(1, 5), 1);
        due.is("restart(1, 9999), not one of the three", x.restart(1, 9999), 0);
        due.is("restart(1, 5)", x.restart(1, 5), 1);
        due.is("restart(1, 6)", x.restart(1, 6), 1);
        due.is("restart(1, 5)", x.restart(1, 5), 0);
        due.is("restart(1, 7)", x.restart(1, 7), 0);
        due.is("restart(2, 5)", x.restart(2, 5), 1);
        due.is("restart(40, 5)", x.restart(40, 5), 1);
    }

    private static void codesThatRestart(Due due) {
        AbendRows x = new AbendRows();
        due.is("restart(1, 1)", x.restart(1, 1), 1);
        due.is("restart(2, 999)", x.restart(2, 999), 1);
        due.is("restart(3, 1000)", x.restart(3, 1000), 0);
        due.is("restart(4, 9999)", x.restart(4, 9999), 0);
    }

    private static void wrongInputs(Due due) {
        AbendRows x = new AbendRows();
        int[] wrongTasks = {0, -1, 41, Integer.MIN_VALUE, Integer.MAX_VALUE};
        for (int task : wrongTasks) {
            due.is("restart(" + task + ", 1)", x.restart(task, 1), -4);
            due.is("dump(" + task + ", 0, 0)", x.dump(task, 0, 0), -1);
        }
        int[] wrongCodes = {0, -1, 10000, Integer.MIN_VALUE, Integer.MAX_VALUE};
        for (int code : wrongCodes) {
            due.is("restart(1, " + code + ")", x.restart(1, code), -4);
            due.is("suppress(" + code + ", true)", x.suppress(code, true), -4);
            due.is("suppress(" + code + ", false)", x.suppress(code, false), -4);
            due.is("count(" + code + ")", x.count(code), 0);
        }
        due.is("count(1)", x.count(1), 0);
        due.is("dump(1, 0, 0)", x.dump(1, 0, 0), -1);
        x.restart(1, 7);
        int[] wrong = {-1, 4, Integer.MIN_VALUE, Integer.MAX_VALUE};
        for (int bad : wrong) {
            due.is("dump(1, 0, " + bad + ")", x.dump(1, 0, bad), -1);
            due.is("dump(1, " + bad + ", 0)", x.dump(1, bad, 0), -1);
        }
        due.is("dump(1, 1, 0)", x.dump(1, 1, 0), -1);
        due.is("dump(1, 0, 0)", x.dump(1, 0, 0), 7);
    }

    private static void dumpIs(Due due, AbendRows x, int task, int i, int... told) {
        for (int what = 0; what < told.length; what++) {
            due.is("dump(" + task + ", " + i + ", " + what + ")", x.dump(task, i, what), told[what]);
        }
    }

    private static void dumpsTellWhatWasThen(Due due) {
        AbendRows x = new AbendRows();
        x.restart(3, 5);
        x.guard(3, 4);
        x.guard(3, 4);
        x.guard(2, 4);
        x.guard(3, 4);
        x.write(3, 4);
        x.write(1, 4);
        x.restart(3, 1005);
        x.write(2, -1);
        x.restart(3, 6);
        x.free(1);
        x.free(4);
        x.restart(3, 7);
        x.restart(3, 8);
        dumpIs(due, x, 3, 0, 5, 0, 0, 1);
        dumpIs(due, x, 3, 1, 1005, 3, 1, 0);
        dumpIs(due, x, 3, 2, 6, 3, 2, 1);
        dumpIs(due, x, 3, 3, 7, 1, 1, 1);
        dumpIs(due, x, 3, 4, 8, 1, 1, 0);
        dumpIs(due, x, 3, 5, -1, -1, -1, -1);
    }

    private static void dumpsOfEachTask(Due due) {
        AbendRows x = new AbendRows();
        for (int k = 0; k < 12; k++) {
            x.restart(k % 3 + 1, 100 + k);
        }
        for (int k = 0; k < 12; k++) {
            due.is("dump", x.dump(k % 3 + 1, k / 3, 0), 100 + k);
        }
        due.is("dump(1, 4, 0)", x.dump(1, 4, 0), -1);
        due.is("dump(4, 0, 0)", x.dump(4, 0, 0), -1);
    }

    private static void theLastFiftyDumps(Due due) {
        AbendRows x = new AbendRows();
        x.restart(2, 2000);
        for (int k = 0; k < 49; k++) {
            x.restart(1, 3000 + k);
        }
        due.is("dump(2, 0, 0)", x.dump(2, 0, 0), 2000);
        due.is("dump(1, 48, 0)", x.dump(1, 48, 0), 3048);
        x.restart(1, 3049);
        due.is("dump(2, 0, 0), the oldest of all has gone", x.dump(2, 0, 0), -1);
        due.is("dump(1, 0, 0)", x.dump(1, 0, 0), 3000);
        due.is("dump(1, 49, 0)", x.dump(1, 49, 0), 3049);
        for (int k = 50; k < 130; k++) {
            x.restart(1, 3000 + k);
            due.is("dump(1, 0, 0)", x.dump(1, 0, 0), 3000 + k - 49);
            due.is("dump(1, 49, 0)", x.dump(1, 49, 0), 3000 + k);
            due.is("dump(1, 50, 0)", x.dump(1, 50, 0), -1);
        }
        x.suppress(9, true);
        x.restart(1, 9);
        due.is("dump(1, 0, 0), one that is not kept drives none out", x.dump(1, 0, 0), 3080);
    }

    private static void suppressedDumps(Due due) {
        AbendRows x = new AbendRows();
        x.restart(1, 5);
        due.is("suppress(5, true)", x.suppress(5, true), 0);
        due.is("suppress(5, true)", x.suppress(5, true), 1);
        due.is("dump(1, 0, 0), it was kept before", x.dump(1, 0, 0), 5);
        due.is("restart(1, 5)", x.restart(1, 5), 1);
        due.is("restart(1, 6)", x.restart(1, 6), 1);
        due.is("restart(1, 5)", x.restart(1, 5), 0);
        due.is("dump(1, 1, 0)", x.dump(1, 1, 0), 6);
        due.is("dump(1, 2, 0)", x.dump(1, 2, 0), -1);
        due.is("suppress(5, false)", x.suppress(5, false), 1);
        due.is("suppress(5, false)", x.suppress(5, false), 0);
        due.is("dump(1, 2, 0), none comes back", x.dump(1, 2, 0), -1);
        due.is("restart(1, 5)", x.restart(1, 5), 0);
        due.is("dump(1, 2, 0)", x.dump(1, 2, 0), 5);
        due.is("count(5)", x.count(5), 4);
    }

    private static void everyCodeHasItsOwnSwitch(Due due) {
        AbendRows x = new AbendRows();
        int[] codes = {1, 2, 63, 64, 65, 127, 128, 5000, 9983, 9984, 9998, 9999};
        for (int code : codes) {
            due.is("suppress(" + code + ", true)", x.suppress(code, true), 0);
        }
        for (int code : codes) {
            due.is("suppress(" + code + ", false)", x.suppress(code, false), 1);
            due.is("suppress(" + code + ", false)", x.suppress(code, false), 0);
        }
    }

    private static void countsOfAbendsAndRestarts(Due due) {
        AbendRows x = new AbendRows();
        x.level(0);
        x.exit(1, 1, false);
        x.abend(1, 300);
        x.restart(1, 300);
        x.restart(1, 1000);
        x.exit(1, 0, true);
        x.abend(1, 200);
        due.is("count(300)", x.count(300), 3);
        due.is("count(200)", x.count(200), 0);
        due.is("count(1000)", x.count(1000), 1);
        due.is("count(9999)", x.count(9999), 0);
        AbendRows often = new AbendRows();
        for (int k = 0; k < 511; k++) {
            often.restart(1, 9999);
        }
        due.is("count(9999)", often.count(9999), 511);
    }
}
