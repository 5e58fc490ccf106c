/** The edges of promises 7 and 11 to 15, and of their terms: each has a case, on an object of its own. */
public final class TaskEdgesTest {
    private static final int[] NO_TASKS = {Integer.MIN_VALUE, -40, -1, 0, 41, Integer.MAX_VALUE};
    private static final int[] NO_CODES = {Integer.MIN_VALUE, -9999, -1, 0, 10000, Integer.MAX_VALUE};

    public static void main(String[] args) {
        Due due = new Due();
        restartOfNoTask(due);
        restartOfTheFirstAndLastTask(due);
        restartByNoCode(due);
        restartByTheFirstAndLastCode(due);
        restartBelowThousand(due);
        restartedThriceInAll(due);
        restartsOfEachTask(due);
        notRestartedIsNotOneOfThree(due);
        refusedRestartChangesNothing(due);
        dumpWhenThereIsNone(due);
        dumpAtItsEnds(due);
        dumpOfOtherWhats(due);
        dumpOfNoTask(due);
        dumpOfTheFirstAndLastTask(due);
        dumpOfOneThatIsNotRestarted(due);
        dumpOfNoGuards(due);
        dumpOfGuardsThatAreFree(due);
        dumpOfGuardsOfOthers(due);
        dumpIsOfThen(due);
        dumpOfSixtyGuards(due);
        fiftiethDumpIsKept(due);
        fiftyFirstDumpDrivesTheOldestOut(due);
        fiftyDumpsOfAllTasks(due);
        dumpsComeRoundOften(due);
        suppressedDumpDrivesNoneOut(due);
        suppressOfNoCode(due);
        suppressOfTheFirstAndLastCode(due);
        suppressTwice(due);
        suppressIsOfOneCode(due);
        suppressedIsNotKept(due);
        suppressedIsStillRestartedAndCounted(due);
        suppressIsForLater(due);
        suppressLooksAtTheCodeOfTheRestart(due);
        refusedSuppressChangesNothing(due);
        loopOfNoTask(due);
        loopOfTheFirstAndLastTask(due);
        loopAboveThousand(due);
        loopAddsUp(due);
        loopOfNoSteps(due);
        loopBeginsAnew(due);
        loopGoesOnOverARestart(due);
        loopOfTheLongest(due);
        loopWouldWrapRound(due);
        loopBelowZero(due);
        loopOfEachTask(due);
        refusedLoopChangesNothing(due);
        loopIsNoAbend(due);
        countOfNoCode(due);
        countOfTheFirstAndLastCode(due);
        countOfNone(due);
        countOfRefused(due);
        countOfEveryEnd(due);
        countAtTheLastCall(due);
        regionsAtTheirEdges(due);
        regionOfNoCode(due);
        due.end();
    }

    private static void dumpIs(Due due, AbendRows x, int task, int i, int... told) {
        for (int what = 0; what < told.length; what++) {
            due.is("dump(" + task + ", " + i + ", " + what + ")", x.dump(task, i, what), told[what]);
        }
    }

    private static void noDump(Due due, AbendRows x, int task, int i) {
        dumpIs(due, x, task, i, -1, -1, -1, -1);
    }

    private static void restartOfNoTask(Due due) {
        due.says("-4 task or code is not so");
        AbendRows x = new AbendRows();
        for (int task : NO_TASKS) {
            due.is("restart(" + task + ", 5)", x.restart(task, 5), -4);
        }
    }

    private static void restartOfTheFirstAndLastTask(Due due) {
        due.says("TASKS are 1 .. 40");
        AbendRows x = new AbendRows();
        due.is("restart(1, 5)", x.restart(1, 5), 1);
        due.is("restart(40, 5)", x.restart(40, 5), 1);
    }

    private static void restartByNoCode(Due due) {
        due.says("-4 task or code is not so");
        AbendRows x = new AbendRows();
        for (int code : NO_CODES) {
            due.is("restart(1, " + code + ")", x.restart(1, code), -4);
            due.is("restart(0, " + code + ")", x.restart(0, code), -4);
        }
    }

    private static void restartByTheFirstAndLastCode(Due due) {
        due.says("a CODE 1 .. 9999");
        AbendRows x = new AbendRows();
        due.is("restart(1, 1)", x.restart(1, 1), 1);
        due.is("restart(1, 9999)", x.restart(1, 9999), 0);
        dumpIs(due, x, 1, 0, 1, 0, 0, 1);
        dumpIs(due, x, 1, 1, 9999, 0, 0, 0);
    }

    private static void restartBelowThousand(Due due) {
        due.says("if the code is below 1000");
        AbendRows x = new AbendRows();
        due.is("restart(1, 998)", x.restart(1, 998), 1);
        due.is("restart(2, 999)", x.restart(2, 999), 1);
        due.is("restart(3, 1000)", x.restart(3, 1000), 0);
        due.is("restart(4, 1001)", x.restart(4, 1001), 0);
    }

    private static void restartedThriceInAll(Due due) {
        due.says("and it has been so at most twice before");
        AbendRows x = new AbendRows();
        due.is("restart(1, 5), so never before", x.restart(1, 5), 1);
        due.is("restart(1, 6), so once before", x.restart(1, 6), 1);
        due.is("restart(1, 7), so twice before", x.restart(1, 7), 1);
        due.is("restart(1, 8), so three times before", x.restart(1, 8), 0);
        due.is("restart(1, 5), still three times before", x.restart(1, 5), 0);
        dumpIs(due, x, 1, 2, 7, 0, 0, 1);
        dumpIs(due, x, 1, 3, 8, 0, 0, 0);
    }

    private static void restartsOfEachTask(Due due) {
        due.says("and it has been so at most twice before");
        AbendRows x = new AbendRows();
        for (int time = 1; time <= 4; time++) {
            for (int task = 1; task <= 40; task++) {
                due.is("restart(" + task + ", 5)", x.restart(task, 5), time <= 3 ? 1 : 0);
            }
        }
    }

    private static void notRestartedIsNotOneOfThree(Due due) {
        due.says("and it has been so at most twice before");
        AbendRows x = new AbendRows();
        for (int time = 0; time < 5; time++) {
            due.is("restart(1, 1000)", x.restart(1, 1000), 0);
        }
        for (int time = 0; time < 3; time++) {
            due.is("restart(1, 999)", x.restart(1, 999), 1);
            due.is("restart(1, 1000)", x.restart(1, 1000), 0);
        }
        due.is("restart(1, 999)", x.restart(1, 999), 0);
    }

    private static void refusedRestartChangesNothing(Due due) {
        due.says("-4 task or code is not so");
        AbendRows x = new AbendRows();
        for (int code : NO_CODES) {
            x.restart(1, code);
            due.is("count(" + code + ")", x.count(code), 0);
        }
        for (int task : NO_TASKS) {
            x.restart(task, 5);
            noDump(due, x, task, 0);
        }
        due.is("count(5)", x.count(5), 0);
        noDump(due, x, 1, 0);
        for (int time = 0; time < 3; time++) {
            due.is("restart(1, 5)", x.restart(1, 5), 1);
        }
    }

    private static void dumpWhenThereIsNone(Due due) {
        due.says("or when there is none");
        AbendRows x = new AbendRows();
        for (int task = 1; task <= 40; task++) {
            noDump(due, x, task, 0);
        }
    }

    private static void dumpAtItsEnds(Due due) {
        due.says("Of a task's i-th kept dump, the oldest first, from 0 on");
        AbendRows x = new AbendRows();
        x.restart(1, 5);
        x.restart(1, 6);
        noDump(due, x, 1, -1);
        dumpIs(due, x, 1, 0, 5);
        dumpIs(due, x, 1, 1, 6);
        noDump(due, x, 1, 2);
        noDump(due, x, 1, Integer.MIN_VALUE);
        noDump(due, x, 1, Integer.MAX_VALUE);
    }

    private static void dumpOfOtherWhats(Due due) {
        due.says("NONE for others");
        AbendRows x = new AbendRows();
        x.restart(1, 5);
        int[] others = {-1, 4, 5, Integer.MIN_VALUE, Integer.MAX_VALUE};
        for (int what : others) {
            due.is("dump(1, 0, " + what + ")", x.dump(1, 0, what), -1);
        }
    }

    private static void dumpOfNoTask(Due due) {
        due.says("NONE for others, or when there is none");
        AbendRows x = new AbendRows();
        for (int task = 1; task <= 40; task++) {
            x.restart(task, 5);
        }
        for (int task : NO_TASKS) {
            noDump(due, x, task, 0);
        }
    }

    private static void dumpOfTheFirstAndLastTask(Due due) {
        due.says("Of a task's i-th kept dump");
        AbendRows x = new AbendRows();
        x.restart(40, 5);
        x.restart(1, 6);
        dumpIs(due, x, 1, 0, 6, 0, 0, 1);
        dumpIs(due, x, 40, 0, 5, 0, 0, 1);
        noDump(due, x, 1, 1);
        noDump(due, x, 40, 1);
    }

    private static void dumpOfOneThatIsNotRestarted(Due due) {
        due.says("DUMPS are kept of each restart that is asked");
        AbendRows x = new AbendRows();
        x.restart(1, 1000);
        for (int time = 0; time < 4; time++) {
            x.restart(1, 5);
        }
        dumpIs(due, x, 1, 0, 1000, 0, 0, 0);
        dumpIs(due, x, 1, 3, 5, 0, 0, 1);
        dumpIs(due, x, 1, 4, 5, 0, 0, 0);
    }

    private static void dumpOfNoGuards(Due due) {
        due.says("1 its guards then (not free), 2 broken ones of them");
        AbendRows x = new AbendRows();
        x.restart(1, 5);
        dumpIs(due, x, 1, 0, 5, 0, 0, 1);
    }

    private static void dumpOfGuardsThatAreFree(Due due) {
        due.says("its guards then (not free)");
        AbendRows x = new AbendRows();
        x.guard(1, 1);
        x.guard(1, 1);
        x.write(1, -1);
        x.write(2, 1);
        x.free(1);
        x.restart(1, 5);
        x.free(2);
        x.restart(1, 6);
        dumpIs(due, x, 1, 0, 5, 1, 1, 1);
        dumpIs(due, x, 1, 1, 6, 0, 0, 1);
    }

    private static void dumpOfGuardsOfOthers(Due due) {
        due.says("its guards then");
        AbendRows x = new AbendRows();
        x.guard(2, 1);
        x.write(1, 1);
        x.restart(1, 5);
        x.restart(2, 5);
        dumpIs(due, x, 1, 0, 5, 0, 0, 1);
        dumpIs(due, x, 2, 0, 5, 1, 1, 1);
    }

    private static void dumpIsOfThen(Due due) {
        due.says("its guards then (not free), 2 broken ones of them, 3 whether it was restarted");
        AbendRows x = new AbendRows();
        x.guard(1, 1);
        x.restart(1, 5);
        x.write(1, 1);
        x.guard(1, 1);
        dumpIs(due, x, 1, 0, 5, 1, 0, 1);
        x.free(1);
        x.free(2);
        x.restart(1, 1000);
        dumpIs(due, x, 1, 0, 5, 1, 0, 1);
    }

    private static void dumpOfSixtyGuards(Due due) {
        due.says("1 its guards then (not free), 2 broken ones of them");
        AbendRows x = new AbendRows();
        for (int guard = 1; guard <= 60; guard++) {
            x.guard(1, 64);
            x.write(guard, 64);
        }
        x.guard(1, 64);
        x.restart(1, 5);
        dumpIs(due, x, 1, 0, 5, 60, 60, 1);
    }

    /** Dumps of task 1 by codes 2001, 2002 and so on, none of which restarts it. */
    private static AbendRows dumps(int many) {
        AbendRows x = new AbendRows();
        for (int k = 1; k <= many; k++) {
            x.restart(1, 2000 + k);
        }
        return x;
    }

    private static void fiftiethDumpIsKept(Due due) {
        due.says("the last 50");
        AbendRows x = dumps(50);
        dumpIs(due, x, 1, 0, 2001, 0, 0, 0);
        dumpIs(due, x, 1, 49, 2050, 0, 0, 0);
        noDump(due, x, 1, 50);
    }

    private static void fiftyFirstDumpDrivesTheOldestOut(Due due) {
        due.says("the last 50");
        AbendRows x = dumps(51);
        dumpIs(due, x, 1, 0, 2002, 0, 0, 0);
        dumpIs(due, x, 1, 49, 2051, 0, 0, 0);
        noDump(due, x, 1, 50);
    }

    private static void fiftyDumpsOfAllTasks(Due due) {
        due.says("the last 50");
        AbendRows x = dumps(50);
        x.restart(2, 3001);
        dumpIs(due, x, 1, 0, 2002);
        dumpIs(due, x, 1, 48, 2050);
        noDump(due, x, 1, 49);
        dumpIs(due, x, 2, 0, 3001);
        for (int k = 2; k <= 50; k++) {
            x.restart(2, 3000 + k);
        }
        noDump(due, x, 1, 0);
        dumpIs(due, x, 2, 0, 3001);
        dumpIs(due, x, 2, 49, 3050);
    }

    private static void dumpsComeRoundOften(Due due) {
        due.says("the oldest first");
        int[] many = {99, 100, 101, 149, 150, 151, 400};
        for (int made : many) {
            AbendRows x = dumps(made);
            for (int i = 0; i < 50; i++) {
                dumpIs(due, x, 1, i, 2000 + made - 49 + i);
            }
            noDump(due, x, 1, 50);
        }
    }

    private static void suppressedDumpDrivesNoneOut(Due due) {
        due.says("unless the code is SUPPRESSED, the last 50");
        AbendRows x = dumps(50);
        x.suppress(3000, true);
        x.restart(1, 3000);
        dumpIs(due, x, 1, 0, 2001);
        dumpIs(due, x, 1, 49, 2050);
    }

    private static void suppressOfNoCode(Due due) {
        due.says("1 when they were, else 0; -4");
        AbendRows x = new AbendRows();
        for (int code : NO_CODES) {
            due.is("suppress(" + code + ", true)", x.suppress(code, true), -4);
            due.is("suppress(" + code + ", false)", x.suppress(code, false), -4);
        }
    }

    private static void suppressOfTheFirstAndLastCode(Due due) {
        due.says("a CODE 1 .. 9999");
        AbendRows x = new AbendRows();
        int[] codes = {1, 9999};
        for (int code : codes) {
            due.is("suppress(" + code + ", true)", x.suppress(code, true), 0);
            due.is("suppress(" + code + ", false)", x.suppress(code, false), 1);
        }
    }

    private static void suppressTwice(Due due) {
        due.says("1 when they were, else 0");
        AbendRows x = new AbendRows();
        due.is("suppress(5, false)", x.suppress(5, false), 0);
        due.is("suppress(5, true)", x.suppress(5, true), 0);
        due.is("suppress(5, true)", x.suppress(5, true), 1);
        due.is("suppress(5, false)", x.suppress(5, false), 1);
        due.is("suppress(5, false)", x.suppress(5, false), 0);
    }

    private static void suppressIsOfOneCode(Due due) {
        due.says("Dumps of a code are suppressed, or not");
        for (int code = 129; code <= 9999; code += 329) {
            AbendRows x = new AbendRows();
            x.suppress(code, true);
            int[] others = {code - 128, code - 64, code - 32, code - 1, code + 1, code + 32, code + 64, code + 128};
            for (int other : others) {
                if (other >= 1 && other <= 9999) {
                    due.is("suppress(" + other + ", false)", x.suppress(other, false), 0);
                }
            }
            due.is("suppress(" + code + ", false)", x.suppress(code, false), 1);
        }
    }

    private static void suppressedIsNotKept(Due due) {
        due.says("unless the code is SUPPRESSED");
        AbendRows x = new AbendRows();
        x.suppress(1, true);
        x.suppress(9999, true);
        x.restart(1, 1);
        x.restart(1, 9999);
        noDump(due, x, 1, 0);
        x.restart(1, 2);
        x.restart(1, 9998);
        dumpIs(due, x, 1, 0, 2);
        dumpIs(due, x, 1, 1, 9998);
        noDump(due, x, 1, 2);
    }

    private static void suppressedIsStillRestartedAndCounted(Due due) {
        due.says("How many abends, and restarts that were asked, had that code");
        AbendRows x = new AbendRows();
        x.suppress(5, true);
        for (int time = 1; time <= 4; time++) {
            due.is("restart(1, 5)", x.restart(1, 5), time <= 3 ? 1 : 0);
            due.is("count(5)", x.count(5), time);
        }
    }

    private static void suppressIsForLater(Due due) {
        due.says("Dumps of a code are suppressed, or not");
        AbendRows x = new AbendRows();
        x.restart(1, 5);
        x.suppress(5, true);
        dumpIs(due, x, 1, 0, 5, 0, 0, 1);
        x.restart(1, 5);
        x.suppress(5, false);
        noDump(due, x, 1, 1);
        x.restart(1, 5);
        dumpIs(due, x, 1, 1, 5, 0, 0, 1);
    }

    private static void suppressLooksAtTheCodeOfTheRestart(Due due) {
        due.says("unless the code is SUPPRESSED");
        AbendRows x = new AbendRows();
        x.suppress(105, true);
        x.restart(1, 5);
        dumpIs(due, x, 1, 0, 5);
    }

    private static void refusedSuppressChangesNothing(Due due) {
        due.says("1 when they were, else 0; -4");
        AbendRows x = new AbendRows();
        for (int code : NO_CODES) {
            x.suppress(code, true);
        }
        due.is("suppress(1, false)", x.suppress(1, false), 0);
        due.is("suppress(9999, false)", x.suppress(9999, false), 0);
        x.restart(1, 1);
        x.restart(1, 9999);
        dumpIs(due, x, 1, 0, 1);
        dumpIs(due, x, 1, 1, 9999);
    }

    private static void loopOfNoTask(Due due) {
        due.says("-4 task is not so");
        AbendRows x = new AbendRows();
        for (int task : NO_TASKS) {
            due.is("loop(" + task + ", 0)", x.loop(task, 0), -4);
            due.is("loop(" + task + ", 1001)", x.loop(task, 1001), -4);
            due.is("loop(" + task + ", -1)", x.loop(task, -1), -4);
        }
    }

    private static void loopOfTheFirstAndLastTask(Due due) {
        due.says("TASKS are 1 .. 40");
        AbendRows x = new AbendRows();
        due.is("loop(1, 1001)", x.loop(1, 1001), 71);
        due.is("loop(40, 1001)", x.loop(40, 1001), 71);
    }

    private static void loopAboveThousand(Due due) {
        due.says("is above 1000");
        AbendRows x = new AbendRows();
        due.is("loop(1, 999)", x.loop(1, 999), 0);
        due.is("loop(2, 1000)", x.loop(2, 1000), 0);
        due.is("loop(3, 1001)", x.loop(3, 1001), 71);
    }

    private static void loopAddsUp(Due due) {
        due.says("with those since the latest 71 (or the beginning)");
        AbendRows x = new AbendRows();
        due.is("loop(1, 500)", x.loop(1, 500), 0);
        due.is("loop(1, 500), 1000 in all", x.loop(1, 500), 0);
        due.is("loop(1, 1), 1001 in all", x.loop(1, 1), 71);
    }

    private static void loopOfNoSteps(Due due) {
        due.says("or steps is below 0");
        AbendRows x = new AbendRows();
        due.is("loop(1, 0)", x.loop(1, 0), 0);
        due.is("loop(1, 1000)", x.loop(1, 1000), 0);
        due.is("loop(1, 0), 1000 in all", x.loop(1, 0), 0);
        due.is("loop(1, 1)", x.loop(1, 1), 71);
        due.is("loop(1, 0)", x.loop(1, 0), 0);
    }

    private static void loopBeginsAnew(Due due) {
        due.says("then they are 0 again");
        AbendRows x = new AbendRows();
        due.is("loop(1, 900)", x.loop(1, 900), 0);
        due.is("loop(1, 1000)", x.loop(1, 1000), 71);
        due.is("loop(1, 1000), none is left over", x.loop(1, 1000), 0);
        due.is("loop(1, 1)", x.loop(1, 1), 71);
        due.is("loop(1, 1001)", x.loop(1, 1001), 71);
    }

    private static void loopGoesOnOverARestart(Due due) {
        due.says("with those since the latest 71 (or the beginning)");
        AbendRows x = new AbendRows();
        due.is("loop(1, 1000)", x.loop(1, 1000), 0);
        due.is("restart(1, 5)", x.restart(1, 5), 1);
        due.is("loop(1, 1)", x.loop(1, 1), 71);
    }

    private static void loopOfTheLongest(Due due) {
        due.says("is above 1000: then they are 0 again");
        AbendRows x = new AbendRows();
        due.is("loop(1, MAX)", x.loop(1, Long.MAX_VALUE), 71);
        due.is("loop(1, MAX)", x.loop(1, Long.MAX_VALUE), 71);
        due.is("loop(1, 1000)", x.loop(1, 1000), 0);
        long[] wouldBeShortAsInts = {1L << 32, (1L << 32) + 1, (1L << 33) + 5, 1L << 62, 0x80000000L, 0xFFFFFFFFL};
        for (long steps : wouldBeShortAsInts) {
            due.is("loop(2, " + steps + ")", x.loop(2, steps), 71);
        }
    }

    private static void loopWouldWrapRound(Due due) {
        due.says("that, with those since the latest 71 (or the beginning), is above 1000");
        AbendRows x = new AbendRows();
        due.is("loop(1, 1)", x.loop(1, 1), 0);
        due.is("loop(1, MAX)", x.loop(1, Long.MAX_VALUE), 71);
        due.is("loop(1, 1000)", x.loop(1, 1000), 0);
        due.is("loop(1, MAX - 999)", x.loop(1, Long.MAX_VALUE - 999), 71);
        due.is("loop(1, 1000)", x.loop(1, 1000), 0);
    }

    private static void loopBelowZero(Due due) {
        due.says("or steps is below 0");
        AbendRows x = new AbendRows();
        long[] below = {-1, -1000, Integer.MIN_VALUE, -(1L << 32), Long.MIN_VALUE};
        for (long steps : below) {
            due.is("loop(1, " + steps + ")", x.loop(1, steps), -4);
        }
    }

    private static void loopOfEachTask(Due due) {
        due.says("A task goes so many steps");
        AbendRows x = new AbendRows();
        for (int task = 1; task <= 40; task++) {
            due.is("loop(" + task + ", 1000)", x.loop(task, 1000), 0);
        }
        for (int task = 40; task >= 1; task--) {
            due.is("loop(" + task + ", 1)", x.loop(task, 1), 71);
        }
    }

    private static void refusedLoopChangesNothing(Due due) {
        due.says("-4 task is not so, or steps is below 0");
        AbendRows x = new AbendRows();
        due.is("loop(1, 1000)", x.loop(1, 1000), 0);
        due.is("loop(1, -1)", x.loop(1, -1), -4);
        due.is("loop(1, MIN)", x.loop(1, Long.MIN_VALUE), -4);
        due.is("loop(0, 1)", x.loop(0, 1), -4);
        due.is("loop(41, 1001)", x.loop(41, 1001), -4);
        due.is("loop(1, 0)", x.loop(1, 0), 0);
        due.is("loop(1, 1)", x.loop(1, 1), 71);
    }

    private static void loopIsNoAbend(Due due) {
        due.says("How many abends, and restarts that were asked");
        AbendRows x = new AbendRows();
        due.is("loop(1, 1001)", x.loop(1, 1001), 71);
        due.is("count(71)", x.count(71), 0);
        noDump(due, x, 1, 0);
    }

    private static void countOfNoCode(Due due) {
        due.says("0 for none such");
        AbendRows x = new AbendRows();
        for (int code : NO_CODES) {
            due.is("count(" + code + ")", x.count(code), 0);
        }
        x.restart(1, 5);
        for (int code : NO_CODES) {
            due.is("count(" + code + ")", x.count(code), 0);
        }
    }

    private static void countOfTheFirstAndLastCode(Due due) {
        due.says("had that code at their end");
        AbendRows x = new AbendRows();
        x.level(0);
        x.restart(1, 1);
        x.abend(1, 1);
        x.restart(1, 9999);
        x.abend(1, 9999);
        due.is("count(1)", x.count(1), 2);
        due.is("count(2)", x.count(2), 0);
        due.is("count(9998)", x.count(9998), 0);
        due.is("count(9999)", x.count(9999), 2);
    }

    private static void countOfNone(Due due) {
        due.says("0 for none such");
        AbendRows x = new AbendRows();
        int[] codes = {1, 71, 999, 1000, 4000, 9999};
        for (int code : codes) {
            due.is("count(" + code + ")", x.count(code), 0);
        }
    }

    private static void countOfRefused(Due due) {
        due.says("restarts that were asked");
        AbendRows x = new AbendRows();
        x.restart(0, 5);
        x.restart(41, 5);
        x.abend(1, 5);
        due.is("count(5)", x.count(5), 0);
    }

    private static void countOfEveryEnd(Due due) {
        due.says("Each code that an abend had, at its end, COUNTS one");
        AbendRows x = new AbendRows();
        x.level(0);
        x.level(1);
        due.is("abend(1, 5), unhandled", x.abend(1, 5), -1);
        due.is("count(5)", x.count(5), 1);
        x.exit(1, 2, false);
        due.is("abend(2, 5), retried", x.abend(2, 5), 2);
        due.is("count(5)", x.count(5), 2);
        x.exit(1, 1, false);
        due.is("abend(2, 5), recovered", x.abend(2, 5), 1);
        due.is("count(5)", x.count(5), 3);
        x.exit(2, 3, false);
        due.is("abend(2, 5), recovered above", x.abend(2, 5), 1);
        due.is("count(5)", x.count(5), 4);
        due.is("restart(1, 5)", x.restart(1, 5), 1);
        due.is("count(5)", x.count(5), 5);
    }

    private static void countAtTheLastCall(Due due) {
        due.says("An object is used for at most 512 calls");
        AbendRows restarts = new AbendRows();
        for (int call = 1; call <= 511; call++) {
            restarts.restart(1, 9999);
        }
        due.is("count(9999), the 512th call", restarts.count(9999), 511);
        AbendRows abends = new AbendRows();
        abends.level(0);
        for (int call = 2; call <= 511; call++) {
            abends.abend(1, 1);
        }
        due.is("count(1), the 512th call", abends.count(1), 510);
    }

    private static void regionsAtTheirEdges(Due due) {
        due.says("1 below 1000, 2 below 4000, 3 others");
        AbendRows x = new AbendRows();
        int[][] codeAndRegion = {{1, 1}, {998, 1}, {999, 1}, {1000, 2}, {1001, 2}, {3999, 2}, {4000, 3}, {9999, 3}};
        for (int[] pair : codeAndRegion) {
            due.is("region(" + pair[0] + ")", x.region(pair[0]), pair[1]);
        }
    }

    private static void regionOfNoCode(Due due) {
        due.says("3 others; -4");
        AbendRows x = new AbendRows();
        for (int code : NO_CODES) {
            due.is("region(" + code + ")", x.region(code), -4);
        }
    }
}
