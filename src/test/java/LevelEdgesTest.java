/** The edges of promises 2, 3, 6 and 16, and of their terms: each has a case, on an object of its own. */
public final class LevelEdgesTest {
    private static final int[] FAR = {Integer.MIN_VALUE, -101, -100, 101, Integer.MAX_VALUE};

    public static void main(String[] args) {
        Due due = new Due();
        firstLevelIsOne(due);
        hundredthLevelIsTheLast(due);
        fullOfLevelsUnderAnyLevel(due);
        twentiethInAChainIsTheDeepest(due);
        chainsAreDeepEachForItself(due);
        levelUnderNoSuchLevel(due);
        noSuchLevelComesBeforeFull(due);
        refusedLevelTakesNoNumber(due);
        exitOfNoSuchLevel(due);
        noSuchLevelComesBeforeDoes(due);
        doesIsZeroToThree(due);
        tenthExitIsTheLast(due);
        doesComesBeforeFullRow(due);
        cancelMakesRoomInARow(due);
        lostExitsMakeRoomInARow(due);
        threeHundredthExitIsTheLast(due);
        goneExitsAreAmongTheThreeHundred(due);
        lostExitsAreAmongTheThreeHundred(due);
        doesComesBeforeThreeHundred(due);
        refusedExitTakesNoNumber(due);
        cancelOfNoSuchLevel(due);
        cancelDownToNone(due);
        cancelOfAFullRow(due);
        cancelAfterLoss(due);
        cancelIsOfOneLevel(due);
        toldOfNoSuchLevel(due);
        toldOfOtherWhats(due);
        toldDepthAtBothEnds(due);
        toldAboveAtBothEnds(due);
        toldExitsEmptyAndFull(due);
        due.end();
    }

    private static AbendRows flat(int levels) {
        AbendRows x = new AbendRows();
        for (int n = 0; n < levels; n++) {
            x.level(0);
        }
        return x;
    }

    private static AbendRows chain(int levels) {
        AbendRows x = new AbendRows();
        for (int n = 0; n < levels; n++) {
            x.level(n);
        }
        return x;
    }

    private static void exits(AbendRows x, int level, int exits) {
        for (int n = 0; n < exits; n++) {
            x.exit(level, 0, false);
        }
    }

    /** 300 exits at levels 1 to 30, and 31 levels. */
    private static AbendRows threeHundredExits() {
        AbendRows x = flat(31);
        for (int level = 1; level <= 30; level++) {
            exits(x, level, 10);
        }
        return x;
    }

    private static void firstLevelIsOne(Due due) {
        due.says("LEVELS are numbered from 1 on");
        AbendRows x = new AbendRows();
        due.is("level(0)", x.level(0), 1);
        due.is("level(0)", x.level(0), 2);
        due.is("level(2)", x.level(2), 3);
    }

    private static void hundredthLevelIsTheLast(Due due) {
        due.says("NONE when there are 100");
        AbendRows x = flat(98);
        due.is("level(0), the 99th", x.level(0), 99);
        due.is("level(0), the 100th", x.level(0), 100);
        due.is("level(0), the 101st", x.level(0), -1);
        due.is("level(0), the 101st again", x.level(0), -1);
        due.is("told(100, 1)", x.told(100, 1), 1);
        due.is("told(101, 1)", x.told(101, 1), -1);
    }

    private static void fullOfLevelsUnderAnyLevel(Due due) {
        due.says("NONE when there are 100");
        AbendRows x = flat(100);
        due.is("level(1)", x.level(1), -1);
        due.is("level(100)", x.level(100), -1);
    }

    private static void twentiethInAChainIsTheDeepest(Due due) {
        due.says("or it would be too deep");
        AbendRows x = chain(18);
        due.is("level(18), 19 deep", x.level(18), 19);
        due.is("level(19), 20 deep", x.level(19), 20);
        due.is("level(20), 21 deep", x.level(20), -1);
        due.is("level(19), 20 deep", x.level(19), 21);
        due.is("level(21), 21 deep", x.level(21), -1);
        due.is("level(18), 19 deep", x.level(18), 22);
        due.is("level(22), 20 deep", x.level(22), 23);
    }

    private static void chainsAreDeepEachForItself(Due due) {
        due.says("at most 20 deep");
        AbendRows x = new AbendRows();
        for (int chain = 0; chain < 5; chain++) {
            for (int deep = 1; deep <= 20; deep++) {
                int above = deep == 1 ? 0 : chain * 20 + deep - 1;
                due.is("level(" + above + ")", x.level(above), chain * 20 + deep);
            }
        }
        due.is("told(100, 1)", x.told(100, 1), 20);
    }

    private static void levelUnderNoSuchLevel(Due due) {
        due.says("-2 no such level");
        AbendRows none = new AbendRows();
        due.is("level(1) when there is none", none.level(1), -2);
        due.is("level(-1) when there is none", none.level(-1), -2);
        AbendRows x = flat(3);
        due.is("level(-1)", x.level(-1), -2);
        due.is("level(4), the next one", x.level(4), -2);
        for (int above : FAR) {
            due.is("level(" + above + ")", x.level(above), -2);
        }
        due.is("level(3), the last one", x.level(3), 4);
    }

    private static void noSuchLevelComesBeforeFull(Due due) {
        due.says("-2 no such level; NONE when there are 100");
        AbendRows x = flat(100);
        due.is("level(101)", x.level(101), -2);
        due.is("level(-1)", x.level(-1), -2);
    }

    private static void refusedLevelTakesNoNumber(Due due) {
        due.says("its number; -2 no such level; NONE");
        AbendRows x = chain(20);
        due.is("level(21)", x.level(21), -2);
        due.is("level(20)", x.level(20), -1);
        due.is("told(21, 1)", x.told(21, 1), -1);
        due.is("exit(21, 0, false)", x.exit(21, 0, false), -2);
        due.is("level(0)", x.level(0), 21);
        due.is("told(21, 1)", x.told(21, 1), 1);
        due.is("told(21, 2)", x.told(21, 2), 0);
    }

    private static void exitOfNoSuchLevel(Due due) {
        due.says("One more exit of a level: its number; -2");
        AbendRows none = new AbendRows();
        due.is("exit(1, 0, false) when there is none", none.exit(1, 0, false), -2);
        AbendRows x = flat(3);
        due.is("exit(0, 0, false)", x.exit(0, 0, false), -2);
        due.is("exit(-1, 0, false)", x.exit(-1, 0, false), -2);
        due.is("exit(4, 0, false)", x.exit(4, 0, false), -2);
        for (int level : FAR) {
            due.is("exit(" + level + ", 0, false)", x.exit(level, 0, false), -2);
        }
        due.is("exit(3, 0, false)", x.exit(3, 0, false), 1);
    }

    private static void noSuchLevelComesBeforeDoes(Due due) {
        due.says("-2; -4 does is not 0 .. 3");
        AbendRows x = flat(1);
        due.is("exit(2, 4, false)", x.exit(2, 4, false), -2);
        due.is("exit(0, -1, false)", x.exit(0, -1, false), -2);
    }

    private static void doesIsZeroToThree(Due due) {
        due.says("-4 does is not 0 .. 3");
        AbendRows x = flat(1);
        int[] wrong = {-1, 4, -4, Integer.MIN_VALUE, Integer.MAX_VALUE};
        for (int does : wrong) {
            due.is("exit(1, " + does + ", false)", x.exit(1, does, false), -4);
            due.is("exit(1, " + does + ", true)", x.exit(1, does, true), -4);
        }
        for (int does = 0; does <= 3; does++) {
            due.is("exit(1, " + does + ", false)", x.exit(1, does, false), 2 * does + 1);
            due.is("exit(1, " + does + ", true)", x.exit(1, does, true), 2 * does + 2);
        }
    }

    private static void tenthExitIsTheLast(Due due) {
        due.says("NONE when it has 10");
        AbendRows x = flat(2);
        exits(x, 1, 8);
        due.is("exit(1, 0, false), the 9th", x.exit(1, 0, false), 9);
        due.is("exit(1, 0, false), the 10th", x.exit(1, 0, false), 10);
        due.is("exit(1, 0, false), the 11th", x.exit(1, 0, false), -1);
        due.is("exit(1, 3, true), the 11th", x.exit(1, 3, true), -1);
        due.is("exit(2, 0, false), of another level", x.exit(2, 0, false), 11);
    }

    private static void doesComesBeforeFullRow(Due due) {
        due.says("-4 does is not 0 .. 3; NONE when it has 10");
        AbendRows x = flat(1);
        exits(x, 1, 10);
        due.is("exit(1, 4, false)", x.exit(1, 4, false), -4);
        due.is("exit(1, -1, true)", x.exit(1, -1, true), -4);
    }

    private static void cancelMakesRoomInARow(Due due) {
        due.says("NONE when it has 10");
        AbendRows x = flat(1);
        exits(x, 1, 10);
        due.is("cancel(1)", x.cancel(1), 9);
        due.is("exit(1, 0, false), the 10th again", x.exit(1, 0, false), 11);
        due.is("exit(1, 0, false), the 11th", x.exit(1, 0, false), -1);
    }

    private static void lostExitsMakeRoomInARow(Due due) {
        due.says("NONE when it has 10");
        AbendRows x = flat(1);
        exits(x, 1, 10);
        due.is("abend(1, 5)", x.abend(1, 5), -1);
        for (int n = 11; n <= 20; n++) {
            due.is("exit(1, 0, false)", x.exit(1, 0, false), n);
        }
        due.is("exit(1, 0, false), the 11th", x.exit(1, 0, false), -1);
    }

    private static void threeHundredthExitIsTheLast(Due due) {
        due.says("or there were 300");
        AbendRows x = flat(31);
        for (int level = 1; level <= 29; level++) {
            exits(x, level, 10);
        }
        exits(x, 30, 8);
        due.is("exit(31, 0, false), the 299th", x.exit(31, 0, false), 299);
        due.is("exit(31, 0, false), the 300th", x.exit(31, 0, false), 300);
        due.is("exit(31, 0, false), the 301st", x.exit(31, 0, false), -1);
        due.is("exit(30, 0, false), the 301st", x.exit(30, 0, false), -1);
        due.is("told(31, 0)", x.told(31, 0), 2);
        due.is("told(30, 0)", x.told(30, 0), 8);
    }

    private static void goneExitsAreAmongTheThreeHundred(Due due) {
        due.says("or there were 300");
        AbendRows x = threeHundredExits();
        due.is("cancel(30)", x.cancel(30), 9);
        due.is("exit(30, 0, false)", x.exit(30, 0, false), -1);
        due.is("exit(31, 0, false)", x.exit(31, 0, false), -1);
    }

    private static void lostExitsAreAmongTheThreeHundred(Due due) {
        due.says("or there were 300");
        AbendRows x = threeHundredExits();
        due.is("abend(1, 5)", x.abend(1, 5), -1);
        due.is("told(1, 0)", x.told(1, 0), 0);
        due.is("exit(1, 0, false)", x.exit(1, 0, false), -1);
        due.is("exit(31, 0, false)", x.exit(31, 0, false), -1);
    }

    private static void doesComesBeforeThreeHundred(Due due) {
        due.says("-2; -4 does is not 0 .. 3; NONE when it has 10, or there were 300");
        AbendRows x = threeHundredExits();
        due.is("exit(32, 0, false)", x.exit(32, 0, false), -2);
        due.is("exit(31, 4, false)", x.exit(31, 4, false), -4);
        due.is("exit(31, 3, false)", x.exit(31, 3, false), -1);
    }

    private static void refusedExitTakesNoNumber(Due due) {
        due.says("numbered over all levels from 1 on");
        AbendRows x = flat(2);
        due.is("exit(3, 0, false)", x.exit(3, 0, false), -2);
        due.is("exit(1, 4, false)", x.exit(1, 4, false), -4);
        due.is("told(1, 0)", x.told(1, 0), 0);
        due.is("exit(1, 0, false)", x.exit(1, 0, false), 1);
        exits(x, 1, 9);
        due.is("exit(1, 0, false)", x.exit(1, 0, false), -1);
        due.is("told(1, 0)", x.told(1, 0), 10);
        due.is("exit(2, 0, false)", x.exit(2, 0, false), 11);
    }

    private static void cancelOfNoSuchLevel(Due due) {
        due.says("how many it has left; -2");
        AbendRows none = new AbendRows();
        due.is("cancel(1) when there is none", none.cancel(1), -2);
        AbendRows x = flat(3);
        exits(x, 3, 1);
        due.is("cancel(0)", x.cancel(0), -2);
        due.is("cancel(-1)", x.cancel(-1), -2);
        due.is("cancel(4)", x.cancel(4), -2);
        for (int level : FAR) {
            due.is("cancel(" + level + ")", x.cancel(level), -2);
        }
        due.is("cancel(3)", x.cancel(3), 0);
    }

    private static void cancelDownToNone(Due due) {
        due.says("NONE when it has none");
        AbendRows x = flat(1);
        due.is("cancel(1) of a new level", x.cancel(1), -1);
        exits(x, 1, 2);
        due.is("cancel(1) of two", x.cancel(1), 1);
        due.is("cancel(1) of one", x.cancel(1), 0);
        due.is("cancel(1) of none", x.cancel(1), -1);
        due.is("cancel(1) of none, again", x.cancel(1), -1);
        due.is("told(1, 0)", x.told(1, 0), 0);
        due.is("exit(1, 0, false)", x.exit(1, 0, false), 3);
        due.is("cancel(1) of one", x.cancel(1), 0);
    }

    private static void cancelOfAFullRow(Due due) {
        due.says("The latest exit of a level goes: how many it has left");
        AbendRows x = flat(1);
        exits(x, 1, 10);
        for (int left = 9; left >= 0; left--) {
            due.is("cancel(1)", x.cancel(1), left);
            due.is("told(1, 0)", x.told(1, 0), left);
        }
        due.is("cancel(1)", x.cancel(1), -1);
    }

    private static void cancelAfterLoss(Due due) {
        due.says("NONE when it has none");
        AbendRows x = flat(1);
        exits(x, 1, 3);
        due.is("abend(1, 5)", x.abend(1, 5), -1);
        due.is("cancel(1)", x.cancel(1), -1);
        due.is("told(1, 0)", x.told(1, 0), 0);
    }

    private static void cancelIsOfOneLevel(Due due) {
        due.says("The latest exit of a level goes");
        AbendRows x = chain(2);
        x.exit(1, 1, false);
        x.exit(2, 1, false);
        due.is("cancel(1), where the latest of all is of level 2", x.cancel(1), 0);
        due.is("told(2, 0)", x.told(2, 0), 1);
        due.is("abend(2, 5)", x.abend(2, 5), 2);
        due.is("abend(1, 5)", x.abend(1, 5), -1);
    }

    private static void toldOfNoSuchLevel(Due due) {
        due.says("NONE for others, or no such level");
        AbendRows none = new AbendRows();
        AbendRows x = flat(3);
        for (int what = -1; what <= 3; what++) {
            due.is("told(1, " + what + ") when there is none", none.told(1, what), -1);
            due.is("told(0, " + what + ")", x.told(0, what), -1);
            due.is("told(-1, " + what + ")", x.told(-1, what), -1);
            due.is("told(4, " + what + ")", x.told(4, what), -1);
            for (int level : FAR) {
                due.is("told(" + level + ", " + what + ")", x.told(level, what), -1);
            }
        }
        due.is("told(3, 0)", x.told(3, 0), 0);
    }

    private static void toldOfOtherWhats(Due due) {
        due.says("NONE for others");
        AbendRows x = flat(1);
        int[] others = {-1, 3, 4, Integer.MIN_VALUE, Integer.MAX_VALUE};
        for (int what : others) {
            due.is("told(1, " + what + ")", x.told(1, what), -1);
        }
    }

    private static void toldDepthAtBothEnds(Due due) {
        due.says("1 its depth");
        AbendRows x = chain(20);
        for (int level = 1; level <= 20; level++) {
            due.is("told(" + level + ", 1)", x.told(level, 1), level);
        }
    }

    private static void toldAboveAtBothEnds(Due due) {
        due.says("2 the one above (0 none)");
        AbendRows x = flat(99);
        due.is("level(99)", x.level(99), 100);
        due.is("told(1, 2)", x.told(1, 2), 0);
        due.is("told(99, 2)", x.told(99, 2), 0);
        due.is("told(100, 2)", x.told(100, 2), 99);
    }

    private static void toldExitsEmptyAndFull(Due due) {
        due.says("what = 0 its exits");
        AbendRows x = flat(2);
        due.is("told(1, 0)", x.told(1, 0), 0);
        exits(x, 1, 11);
        due.is("told(1, 0)", x.told(1, 0), 10);
        due.is("told(2, 0)", x.told(2, 0), 0);
    }
}
