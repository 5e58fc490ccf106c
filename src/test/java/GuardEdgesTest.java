/** The edges of promises 1 and 8 to 10, and of their terms: each has a case, on an object of its own. */
public final class GuardEdgesTest {
    private static final int[] NO_TASKS = {Integer.MIN_VALUE, -40, -1, 0, 41, Integer.MAX_VALUE};
    private static final int[] NO_SIZES = {Integer.MIN_VALUE, -64, -1, 0, 65, Integer.MAX_VALUE};
    private static final int[] FAR = {Integer.MIN_VALUE, -60, -1, 0, 61, Integer.MAX_VALUE};

    public static void main(String[] args) {
        Due due = new Due();
        newHasNoLevels(due);
        newHasNoGuards(due);
        newHasNoDumps(due);
        newHasNothingSuppressed(due);
        newSharesNothing(due);
        firstGuardIsOne(due);
        guardOfNoTask(due);
        guardOfNoSize(due);
        guardOfTheFirstAndLast(due);
        sixtiethGuardIsTheLast(due);
        freeGuardsAreAmongTheSixty(due);
        wrongComesBeforeSixty(due);
        refusedGuardTakesNoNumber(due);
        writeInNoSuchGuard(due);
        writeInAFreeGuard(due);
        writeAtBothEndsWithin(due);
        writeOnTheEdgeAhead(due);
        writeOnTheEdgeBehind(due);
        writeInTheSmallest(due);
        writeInTheLargest(due);
        writeWasBroken(due);
        writeBeyondTheEdges(due);
        writeBeyondTheEdgesOfABroken(due);
        noSuchGuardComesBeforeBeyond(due);
        writeBreaksOneAlone(due);
        refusedWriteBreaksNothing(due);
        freeNoSuchGuard(due);
        freeTwice(due);
        freeBrokenTwice(due);
        freeBrokenOfTheFirstAndLastTask(due);
        freeIsOfOneGuard(due);
        freeOfAllSixty(due);
        due.end();
    }

    private static void newHasNoLevels(Due due) {
        due.says("No levels, guards, dumps; nothing suppressed");
        AbendRows x = new AbendRows();
        for (int level = -1; level <= 101; level++) {
            due.is("told(" + level + ", 1)", x.told(level, 1), -1);
        }
        due.is("order(0)", x.order(0), 0);
    }

    private static void newHasNoGuards(Due due) {
        due.says("No levels, guards, dumps; nothing suppressed");
        AbendRows x = new AbendRows();
        for (int guard = -1; guard <= 61; guard++) {
            due.is("write(" + guard + ", 0)", x.write(guard, 0), -2);
            due.is("free(" + guard + ")", x.free(guard), -2);
        }
    }

    private static void newHasNoDumps(Due due) {
        due.says("No levels, guards, dumps; nothing suppressed");
        AbendRows x = new AbendRows();
        for (int task = -1; task <= 41; task++) {
            for (int what = 0; what <= 3; what++) {
                due.is("dump(" + task + ", 0, " + what + ")", x.dump(task, 0, what), -1);
            }
        }
    }

    private static void newHasNothingSuppressed(Due due) {
        due.says("No levels, guards, dumps; nothing suppressed");
        for (int first = 1; first <= 9999; first += 500) {
            AbendRows x = new AbendRows();
            for (int code = first; code < first + 500 && code <= 9999; code++) {
                due.is("suppress(" + code + ", false)", x.suppress(code, false), 0);
            }
        }
    }

    private static void newSharesNothing(Due due) {
        due.says("No levels, guards, dumps; nothing suppressed");
        AbendRows used = new AbendRows();
        used.level(0);
        used.exit(1, 1, false);
        used.abend(1, 5);
        used.guard(1, 1);
        used.restart(1, 5);
        used.suppress(5, true);
        used.loop(1, 1000);
        AbendRows x = new AbendRows();
        due.is("told(1, 0)", x.told(1, 0), -1);
        due.is("order(0)", x.order(0), 0);
        due.is("write(1, 0)", x.write(1, 0), -2);
        due.is("dump(1, 0, 0)", x.dump(1, 0, 0), -1);
        due.is("suppress(5, false)", x.suppress(5, false), 0);
        due.is("count(5)", x.count(5), 0);
        due.is("loop(1, 1)", x.loop(1, 1), 0);
        due.is("level(0)", x.level(0), 1);
        due.is("exit(1, 0, false)", x.exit(1, 0, false), 1);
        due.is("guard(1, 1)", x.guard(1, 1), 1);
    }

    private static void firstGuardIsOne(Due due) {
        due.says("its number, from 1 on");
        AbendRows x = new AbendRows();
        due.is("guard(1, 1)", x.guard(1, 1), 1);
        due.is("guard(2, 1)", x.guard(2, 1), 2);
        due.is("guard(1, 1)", x.guard(1, 1), 3);
    }

    private static void guardOfNoTask(Due due) {
        due.says("its number, from 1 on; -4");
        AbendRows x = new AbendRows();
        for (int task : NO_TASKS) {
            due.is("guard(" + task + ", 1)", x.guard(task, 1), -4);
            due.is("guard(" + task + ", 0)", x.guard(task, 0), -4);
        }
    }

    private static void guardOfNoSize(Due due) {
        due.says("with a size 1 .. 64");
        AbendRows x = new AbendRows();
        for (int size : NO_SIZES) {
            due.is("guard(1, " + size + ")", x.guard(1, size), -4);
        }
    }

    private static void guardOfTheFirstAndLast(Due due) {
        due.says("TASKS are 1 .. 40");
        AbendRows x = new AbendRows();
        due.is("guard(1, 1)", x.guard(1, 1), 1);
        due.is("guard(40, 1)", x.guard(40, 1), 2);
        due.is("guard(1, 64)", x.guard(1, 64), 3);
        due.is("guard(40, 64)", x.guard(40, 64), 4);
    }

    private static AbendRows guards(int many) {
        AbendRows x = new AbendRows();
        for (int guard = 1; guard <= many; guard++) {
            x.guard(1, 4);
        }
        return x;
    }

    private static void sixtiethGuardIsTheLast(Due due) {
        due.says("NONE when there are 60");
        AbendRows x = guards(58);
        due.is("guard(1, 1), the 59th", x.guard(1, 1), 59);
        due.is("guard(40, 64), the 60th", x.guard(40, 64), 60);
        due.is("guard(1, 1), the 61st", x.guard(1, 1), -1);
        due.is("guard(40, 64), the 61st", x.guard(40, 64), -1);
        due.is("write(60, 63)", x.write(60, 63), 1);
        due.is("write(61, 0)", x.write(61, 0), -2);
    }

    private static void freeGuardsAreAmongTheSixty(Due due) {
        due.says("NONE when there are 60");
        AbendRows x = guards(60);
        due.is("free(1)", x.free(1), 1);
        due.is("free(60)", x.free(60), 1);
        due.is("guard(1, 1)", x.guard(1, 1), -1);
    }

    private static void wrongComesBeforeSixty(Due due) {
        due.says("-4; NONE when there are 60");
        AbendRows x = guards(60);
        due.is("guard(0, 1)", x.guard(0, 1), -4);
        due.is("guard(41, 1)", x.guard(41, 1), -4);
        due.is("guard(1, 0)", x.guard(1, 0), -4);
        due.is("guard(1, 65)", x.guard(1, 65), -4);
    }

    private static void refusedGuardTakesNoNumber(Due due) {
        due.says("its number, from 1 on; -4");
        AbendRows x = new AbendRows();
        due.is("guard(0, 1)", x.guard(0, 1), -4);
        due.is("guard(1, 65)", x.guard(1, 65), -4);
        due.is("write(1, 0)", x.write(1, 0), -2);
        due.is("restart(1, 5)", x.restart(1, 5), 1);
        due.is("dump(1, 0, 1)", x.dump(1, 0, 1), 0);
        due.is("guard(1, 1)", x.guard(1, 1), 1);
    }

    private static void writeInNoSuchGuard(Due due) {
        due.says("-2 no such guard");
        AbendRows x = guards(3);
        due.is("write(4, 0)", x.write(4, 0), -2);
        for (int guard : FAR) {
            due.is("write(" + guard + ", 0)", x.write(guard, 0), -2);
        }
        due.is("write(3, 0)", x.write(3, 0), 1);
    }

    private static void writeInAFreeGuard(Due due) {
        due.says("or it is free");
        AbendRows x = guards(2);
        x.free(1);
        for (int i = -2; i <= 5; i++) {
            due.is("write(1, " + i + ")", x.write(1, i), -2);
        }
        due.is("write(2, 0)", x.write(2, 0), 1);
    }

    private static void writeAtBothEndsWithin(Due due) {
        due.says("0 .. size - 1 within");
        AbendRows x = guards(1);
        due.is("write(1, 0)", x.write(1, 0), 1);
        due.is("write(1, 3)", x.write(1, 3), 1);
        due.is("write(1, 0), still not broken", x.write(1, 0), 1);
        due.is("free(1)", x.free(1), 1);
    }

    private static void writeOnTheEdgeAhead(Due due) {
        due.says("NONE and size are its edges: 1; 0 when that breaks it");
        AbendRows x = guards(1);
        due.is("write(1, NONE)", x.write(1, AbendRows.NONE), 0);
        due.is("free(1)", x.free(1), -11);
    }

    private static void writeOnTheEdgeBehind(Due due) {
        due.says("NONE and size are its edges: 1; 0 when that breaks it");
        AbendRows x = guards(1);
        due.is("write(1, 4)", x.write(1, 4), 0);
        due.is("free(1)", x.free(1), -11);
    }

    private static void writeInTheSmallest(Due due) {
        due.says("with a size 1 .. 64 and an edge byte ahead and behind");
        int[][] placeAndAnswer = {{-2, -4}, {-1, 0}, {0, 1}, {1, 0}, {2, -4}};
        for (int[] pair : placeAndAnswer) {
            AbendRows x = new AbendRows();
            x.guard(1, 1);
            due.is("write(1, " + pair[0] + ")", x.write(1, pair[0]), pair[1]);
        }
    }

    private static void writeInTheLargest(Due due) {
        due.says("with a size 1 .. 64 and an edge byte ahead and behind");
        int[][] placeAndAnswer = {{-2, -4}, {-1, 0}, {0, 1}, {31, 1}, {63, 1}, {64, 0}, {65, -4}};
        for (int[] pair : placeAndAnswer) {
            AbendRows x = new AbendRows();
            x.guard(1, 64);
            due.is("write(1, " + pair[0] + ")", x.write(1, pair[0]), pair[1]);
        }
    }

    private static void writeWasBroken(Due due) {
        due.says("or it was broken");
        AbendRows x = guards(1);
        x.write(1, 4);
        for (int i = -1; i <= 4; i++) {
            due.is("write(1, " + i + ")", x.write(1, i), 0);
        }
    }

    private static void writeBeyondTheEdges(Due due) {
        due.says("-4 i is beyond its edges");
        AbendRows x = guards(1);
        int[] beyond = {-2, 5, 64, Integer.MIN_VALUE, Integer.MAX_VALUE};
        for (int i : beyond) {
            due.is("write(1, " + i + ")", x.write(1, i), -4);
        }
    }

    private static void writeBeyondTheEdgesOfABroken(Due due) {
        due.says("-4 i is beyond its edges");
        AbendRows x = guards(1);
        x.write(1, -1);
        due.is("write(1, -2)", x.write(1, -2), -4);
        due.is("write(1, 5)", x.write(1, 5), -4);
        due.is("write(1, 4)", x.write(1, 4), 0);
    }

    private static void noSuchGuardComesBeforeBeyond(Due due) {
        due.says("-2 no such guard (or it is free); -4 i is beyond its edges");
        AbendRows x = guards(1);
        due.is("write(2, -2)", x.write(2, -2), -2);
        due.is("write(2, 65)", x.write(2, 65), -2);
        x.free(1);
        due.is("write(1, -2)", x.write(1, -2), -2);
        due.is("write(1, 5)", x.write(1, 5), -2);
    }

    private static void writeBreaksOneAlone(Due due) {
        due.says("one whose edge is written on is BROKEN");
        AbendRows x = guards(3);
        x.write(2, 4);
        due.is("write(1, 3)", x.write(1, 3), 1);
        due.is("write(3, 0)", x.write(3, 0), 1);
        due.is("free(1)", x.free(1), 1);
        due.is("free(2)", x.free(2), -11);
        due.is("free(3)", x.free(3), 1);
    }

    private static void refusedWriteBreaksNothing(Due due) {
        due.says("-4 i is beyond its edges");
        AbendRows x = guards(1);
        x.write(1, -2);
        x.write(1, 5);
        due.is("write(1, 0)", x.write(1, 0), 1);
        x.restart(1, 5);
        due.is("dump(1, 0, 2)", x.dump(1, 0, 2), 0);
        due.is("free(1)", x.free(1), 1);
    }

    private static void freeNoSuchGuard(Due due) {
        due.says("when it was broken; -2");
        AbendRows x = guards(3);
        due.is("free(4)", x.free(4), -2);
        for (int guard : FAR) {
            due.is("free(" + guard + ")", x.free(guard), -2);
        }
        due.is("free(3)", x.free(3), 1);
    }

    private static void freeTwice(Due due) {
        due.says("A guard is free: 1");
        AbendRows x = guards(1);
        due.is("free(1)", x.free(1), 1);
        due.is("free(1), again", x.free(1), -2);
        due.is("free(1), again", x.free(1), -2);
    }

    private static void freeBrokenTwice(Due due) {
        due.says("minus 10 minus its task, when it was broken; -2");
        AbendRows x = guards(1);
        x.write(1, -1);
        due.is("free(1)", x.free(1), -11);
        due.is("free(1), again", x.free(1), -2);
    }

    private static void freeBrokenOfTheFirstAndLastTask(Due due) {
        due.says("minus 10 minus its task, when it was broken");
        AbendRows x = new AbendRows();
        for (int task = 1; task <= 40; task++) {
            x.guard(task, 1);
            x.write(task, 1);
            due.is("free(" + task + ")", x.free(task), -10 - task);
        }
    }

    private static void freeIsOfOneGuard(Due due) {
        due.says("A guard is free");
        AbendRows x = guards(3);
        due.is("free(2)", x.free(2), 1);
        due.is("write(1, 0)", x.write(1, 0), 1);
        due.is("write(3, 0)", x.write(3, 0), 1);
        due.is("guard(1, 1), no number comes twice", x.guard(1, 1), 4);
    }

    private static void freeOfAllSixty(Due due) {
        due.says("A guard is free: 1");
        AbendRows x = guards(60);
        for (int guard = 60; guard >= 1; guard--) {
            due.is("free(" + guard + ")", x.free(guard), 1);
        }
        x.restart(1, 5);
        due.is("dump(1, 0, 1)", x.dump(1, 0, 1), 0);
        for (int guard = 1; guard <= 60; guard++) {
            due.is("free(" + guard + "), again", x.free(guard), -2);
        }
    }
}
