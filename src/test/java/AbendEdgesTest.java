/** The edges of promises 4 and 5, and of their terms: each has a case, on an object of its own. */
public final class AbendEdgesTest {
    private static final int[] FAR = {Integer.MIN_VALUE, -10000, -9999, 10001, Integer.MAX_VALUE};

    public static void main(String[] args) {
        Due due = new Due();
        abendAtNoSuchLevel(due);
        codeIsOneToHeld(due);
        noSuchLevelComesBeforeCode(due);
        refusedAbendChangesNothing(due);
        refusedAbendRetriesNothing(due);
        noExitsAtAll(due);
        levelsWithoutExitsOnTheWay(due);
        exitsBelowAreNotAsked(due);
        onlyGoingOn(due);
        firstAskedRecovers(due);
        lastAskedRecovers(due);
        retryTheSecondTime(due);
        retryTheSecondTimeFromAnotherLevel(due);
        retryAloneTheSecondTime(due);
        retryUnaskedIsNotSpent(due);
        retriesOfTwoExits(due);
        recoverAboveTheTop(due);
        recoverAboveTheTopAlone(due);
        recoverAboveJustBelowTheTop(due);
        recoverAboveAtTheDeepest(due);
        abendingLastOfItsRow(due);
        abendingLastOfAll(due);
        abendingDoesNothingElse(due);
        abendingSpendsNoRetry(due);
        codeIsHeldByOne(due);
        codeIsHeldByMany(due);
        codeStepsPastRegions(due);
        loseNoneAtTheirOwnLevel(due);
        loseAllBelowTheEnd(due);
        loseTheirOwnByThree(due);
        loseNoneByRetry(due);
        loseAllUnhandled(due);
        loseNoneOffTheWay(due);
        lostExitsAreAskedNoMore(due);
        lostExitsStayLostBehindNewOnes(due);
        orderBeforeAnyAbend(due);
        orderAtItsEnds(due);
        orderOfNoneAsked(due);
        orderIsOfTheLatestAlone(due);
        orderOutlivesTheExits(due);
        orderAtItsLongest(due);
        orderHasEachOnce(due);
        orderIsNotOfRestarts(due);
        due.end();
    }

    private static AbendRows chain(int levels) {
        AbendRows x = new AbendRows();
        for (int n = 0; n < levels; n++) {
            x.level(n);
        }
        return x;
    }

    private static void orderIs(Due due, AbendRows x, int... exits) {
        for (int i = 0; i < exits.length; i++) {
            due.is("order(" + i + ")", x.order(i), exits[i]);
        }
        due.is("order(" + exits.length + ")", x.order(exits.length), 0);
    }

    private static void exitsAre(Due due, AbendRows x, int... exits) {
        for (int i = 0; i < exits.length; i++) {
            due.is("told(" + (i + 1) + ", 0)", x.told(i + 1, 0), exits[i]);
        }
    }

    private static void abendAtNoSuchLevel(Due due) {
        due.says("NONE unhandled; -2");
        AbendRows none = new AbendRows();
        due.is("abend(1, 5) when there is none", none.abend(1, 5), -2);
        AbendRows x = chain(3);
        due.is("abend(0, 5)", x.abend(0, 5), -2);
        due.is("abend(-1, 5)", x.abend(-1, 5), -2);
        due.is("abend(4, 5)", x.abend(4, 5), -2);
        for (int level : FAR) {
            due.is("abend(" + level + ", 5)", x.abend(level, 5), -2);
        }
        due.is("abend(3, 5)", x.abend(3, 5), -1);
    }

    private static void codeIsOneToHeld(Due due) {
        due.says("-4 code is not so");
        AbendRows x = chain(1);
        x.exit(1, 1, false);
        due.is("abend(1, 0)", x.abend(1, 0), -4);
        due.is("abend(1, 1)", x.abend(1, 1), 1);
        due.is("abend(1, 9999)", x.abend(1, 9999), 1);
        due.is("abend(1, 10000)", x.abend(1, 10000), -4);
        due.is("abend(1, -1)", x.abend(1, -1), -4);
        for (int code : FAR) {
            due.is("abend(1, " + code + ")", x.abend(1, code), -4);
        }
    }

    private static void noSuchLevelComesBeforeCode(Due due) {
        due.says("-2; -4 code is not so");
        AbendRows x = chain(1);
        due.is("abend(2, 0)", x.abend(2, 0), -2);
        due.is("abend(0, 10000)", x.abend(0, 10000), -2);
    }

    private static void refusedAbendChangesNothing(Due due) {
        due.says("-2; -4 code is not so");
        AbendRows x = chain(1);
        x.exit(1, 0, false);
        x.exit(1, 1, false);
        due.is("abend(1, 7)", x.abend(1, 7), 1);
        due.is("abend(2, 5)", x.abend(2, 5), -2);
        due.is("abend(1, 0)", x.abend(1, 0), -4);
        due.is("abend(1, 10000)", x.abend(1, 10000), -4);
        int[] codes = {-1, 0, 5, 9999, 10000};
        for (int code : codes) {
            due.is("count(" + code + ")", x.count(code), 0);
        }
        due.is("count(7)", x.count(7), 1);
        exitsAre(due, x, 2);
        orderIs(due, x, 2);
    }

    private static void refusedAbendRetriesNothing(Due due) {
        due.says("-4 code is not so");
        AbendRows x = chain(1);
        x.exit(1, 2, false);
        due.is("abend(1, 0)", x.abend(1, 0), -4);
        due.is("abend(1, 5), its first retry", x.abend(1, 5), 1);
    }

    private static void noExitsAtAll(Due due) {
        due.says("If none ends it, it is UNHANDLED");
        AbendRows x = chain(2);
        due.is("abend(2, 5)", x.abend(2, 5), -1);
        due.is("abend(1, 5)", x.abend(1, 5), -1);
        due.is("count(5)", x.count(5), 2);
    }

    private static void levelsWithoutExitsOnTheWay(Due due) {
        due.says("then those of the level above, and so on");
        AbendRows x = chain(20);
        x.exit(1, 1, false);
        due.is("abend(20, 5)", x.abend(20, 5), 1);
        orderIs(due, x, 1);
    }

    private static void exitsBelowAreNotAsked(Due due) {
        due.says("the level's exits are asked, the latest first, then those of the level above");
        AbendRows x = chain(3);
        x.exit(3, 1, false);
        x.exit(1, 1, false);
        due.is("abend(2, 5)", x.abend(2, 5), 1);
        orderIs(due, x, 2);
    }

    private static void onlyGoingOn(Due due) {
        due.says("If none ends it, it is UNHANDLED");
        AbendRows x = chain(2);
        x.exit(1, 0, false);
        x.exit(2, 0, false);
        due.is("abend(2, 5)", x.abend(2, 5), -1);
        orderIs(due, x, 2, 1);
        due.is("count(5)", x.count(5), 1);
    }

    private static void firstAskedRecovers(Due due) {
        due.says("One that recovers ends it, at its level");
        AbendRows x = chain(2);
        x.exit(1, 1, false);
        x.exit(2, 1, false);
        x.exit(2, 1, false);
        due.is("abend(2, 5)", x.abend(2, 5), 2);
        orderIs(due, x, 3);
    }

    private static void lastAskedRecovers(Due due) {
        due.says("One that recovers ends it, at its level");
        AbendRows x = chain(20);
        x.exit(1, 1, false);
        for (int n = 2; n <= 200; n++) {
            x.exit((n - 1) / 10 + 1, 0, false);
        }
        due.is("abend(20, 5)", x.abend(20, 5), 1);
        due.is("order(199)", x.order(199), 1);
        due.is("count(5)", x.count(5), 1);
    }

    private static void retryTheSecondTime(Due due) {
        due.says("2 retries (once in all: a second time it goes on)");
        AbendRows x = chain(2);
        x.exit(1, 1, false);
        x.exit(1, 2, false);
        due.is("abend(2, 5), the first time", x.abend(2, 5), 2);
        orderIs(due, x, 2);
        due.is("abend(2, 5), the second", x.abend(2, 5), 1);
        orderIs(due, x, 2, 1);
        due.is("abend(2, 5), the third", x.abend(2, 5), 1);
        orderIs(due, x, 2, 1);
    }

    private static void retryTheSecondTimeFromAnotherLevel(Due due) {
        due.says("once in all");
        AbendRows x = chain(3);
        x.exit(1, 2, false);
        due.is("abend(3, 5)", x.abend(3, 5), 3);
        due.is("abend(2, 900)", x.abend(2, 900), -1);
        orderIs(due, x, 1);
    }

    private static void retryAloneTheSecondTime(Due due) {
        due.says("a second time it goes on");
        AbendRows x = chain(1);
        x.exit(1, 2, false);
        due.is("abend(1, 5)", x.abend(1, 5), 1);
        due.is("told(1, 0)", x.told(1, 0), 1);
        due.is("abend(1, 5)", x.abend(1, 5), -1);
        due.is("told(1, 0)", x.told(1, 0), 0);
    }

    private static void retryUnaskedIsNotSpent(Due due) {
        due.says("once in all");
        AbendRows x = chain(1);
        x.exit(1, 2, false);
        x.exit(1, 1, false);
        due.is("abend(1, 5), exit 1 is not asked", x.abend(1, 5), 1);
        orderIs(due, x, 2);
        x.cancel(1);
        due.is("abend(1, 5), exit 1's first time", x.abend(1, 5), 1);
        orderIs(due, x, 1);
    }

    private static void retriesOfTwoExits(Due due) {
        due.says("2 retries (once in all: a second time it goes on)");
        AbendRows x = chain(1);
        x.exit(1, 2, false);
        x.exit(1, 2, false);
        due.is("abend(1, 5), by exit 2", x.abend(1, 5), 1);
        orderIs(due, x, 2);
        due.is("abend(1, 5), by exit 1", x.abend(1, 5), 1);
        orderIs(due, x, 2, 1);
        due.is("abend(1, 5), by none", x.abend(1, 5), -1);
        orderIs(due, x, 2, 1);
    }

    private static void recoverAboveTheTop(Due due) {
        due.says("if there is none above, it goes on");
        AbendRows x = chain(1);
        x.exit(1, 1, false);
        x.exit(1, 3, false);
        due.is("abend(1, 5)", x.abend(1, 5), 1);
        orderIs(due, x, 2, 1);
        exitsAre(due, x, 2);
    }

    private static void recoverAboveTheTopAlone(Due due) {
        due.says("if there is none above, it goes on");
        AbendRows x = chain(2);
        x.exit(1, 3, false);
        due.is("abend(2, 5)", x.abend(2, 5), -1);
        orderIs(due, x, 1);
        exitsAre(due, x, 0);
    }

    private static void recoverAboveJustBelowTheTop(Due due) {
        due.says("3 recovers at the level above that of its own");
        AbendRows x = chain(3);
        x.exit(1, 1, false);
        x.exit(2, 3, false);
        due.is("abend(3, 5), above the exit's level, not the abend's", x.abend(3, 5), 1);
        orderIs(due, x, 2);
        exitsAre(due, x, 1, 0, 0);
    }

    private static void recoverAboveAtTheDeepest(Due due) {
        due.says("3 recovers at the level above that of its own");
        AbendRows x = chain(20);
        x.exit(20, 3, false);
        due.is("abend(20, 5)", x.abend(20, 5), 19);
        due.is("told(20, 0)", x.told(20, 0), 0);
    }

    private static void abendingLastOfItsRow(Due due) {
        due.says("and the search goes on with what comes next");
        AbendRows x = chain(2);
        x.exit(1, 1, false);
        x.exit(2, 1, true);
        due.is("abend(2, 5)", x.abend(2, 5), 1);
        orderIs(due, x, 2, 1);
        due.is("count(105)", x.count(105), 1);
    }

    private static void abendingLastOfAll(Due due) {
        due.says("the code becomes 100 more");
        AbendRows x = chain(1);
        x.exit(1, 1, true);
        due.is("abend(1, 5)", x.abend(1, 5), -1);
        due.is("count(5)", x.count(5), 0);
        due.is("count(105)", x.count(105), 1);
        exitsAre(due, x, 0);
    }

    private static void abendingDoesNothingElse(Due due) {
        due.says("One that abends itself");
        for (int does = 0; does <= 3; does++) {
            AbendRows x = chain(3);
            x.exit(1, 1, false);
            x.exit(2, does, true);
            due.is("abend(3, 5), does " + does, x.abend(3, 5), 1);
            orderIs(due, x, 2, 1);
            due.is("count(105)", x.count(105), 1);
        }
    }

    private static void abendingSpendsNoRetry(Due due) {
        due.says("One that abends itself");
        AbendRows x = chain(1);
        x.exit(1, 1, false);
        x.exit(1, 2, true);
        for (int time = 1; time <= 3; time++) {
            due.is("abend(1, 5)", x.abend(1, 5), 1);
            orderIs(due, x, 2, 1);
            due.is("count(105)", x.count(105), time);
        }
    }

    private static void codeIsHeldByOne(Due due) {
        due.says("the code becomes 100 more (held to 9999)");
        int[][] codeAndEnd = {{1, 101}, {9898, 9998}, {9899, 9999}, {9900, 9999}, {9998, 9999}, {9999, 9999}};
        for (int[] pair : codeAndEnd) {
            AbendRows x = chain(1);
            x.exit(1, 0, true);
            due.is("abend(1, " + pair[0] + ")", x.abend(1, pair[0]), -1);
            due.is("count(" + pair[1] + ")", x.count(pair[1]), 1);
            due.is("count(" + (pair[0] + 100) + ")", x.count(pair[0] + 100), pair[0] + 100 == pair[1] ? 1 : 0);
        }
    }

    private static void codeIsHeldByMany(Due due) {
        due.says("held to 9999");
        AbendRows x = chain(20);
        for (int n = 0; n < 200; n++) {
            x.exit(n / 10 + 1, 0, true);
        }
        due.is("abend(10, 1), by 100 exits", x.abend(10, 1), -1);
        due.is("count(9999)", x.count(9999), 1);
        due.is("count(10001)", x.count(10001), 0);
        AbendRows justBelow = chain(10);
        for (int n = 0; n < 99; n++) {
            justBelow.exit(n / 10 + 1, 0, true);
        }
        due.is("abend(10, 98), by 99 exits", justBelow.abend(10, 98), -1);
        due.is("count(9998)", justBelow.count(9998), 1);
        due.is("count(9999)", justBelow.count(9999), 0);
    }

    private static void codeStepsPastRegions(Due due) {
        due.says("Each code that an abend had, at its end, COUNTS one");
        AbendRows x = chain(1);
        x.exit(1, 1, false);
        x.exit(1, 0, true);
        due.is("abend(1, 999)", x.abend(1, 999), 1);
        due.is("abend(1, 1099)", x.abend(1, 1099), 1);
        due.is("count(999)", x.count(999), 0);
        due.is("count(1099)", x.count(1099), 1);
        due.is("count(1199)", x.count(1199), 1);
    }

    private static AbendRows oneExitEach(int levels) {
        AbendRows x = chain(levels);
        for (int level = 1; level <= levels; level++) {
            x.exit(level, 0, false);
        }
        return x;
    }

    private static void loseNoneAtTheirOwnLevel(Due due) {
        due.says("Levels below the one at which it ends, on the way, lose their exits");
        AbendRows x = oneExitEach(3);
        x.exit(2, 1, false);
        due.is("abend(2, 5)", x.abend(2, 5), 2);
        exitsAre(due, x, 1, 2, 1);
    }

    private static void loseAllBelowTheEnd(Due due) {
        due.says("Levels below the one at which it ends, on the way, lose their exits");
        AbendRows x = oneExitEach(20);
        x.exit(1, 1, false);
        due.is("abend(20, 5)", x.abend(20, 5), 1);
        due.is("told(1, 0)", x.told(1, 0), 2);
        for (int level = 2; level <= 20; level++) {
            due.is("told(" + level + ", 0)", x.told(level, 0), 0);
        }
    }

    private static void loseTheirOwnByThree(Due due) {
        due.says("Levels below the one at which it ends, on the way, lose their exits");
        AbendRows x = oneExitEach(4);
        x.exit(3, 3, false);
        due.is("abend(3, 5)", x.abend(3, 5), 2);
        exitsAre(due, x, 1, 1, 0, 1);
    }

    private static void loseNoneByRetry(Due due) {
        due.says("by a retry none");
        AbendRows x = oneExitEach(3);
        x.exit(1, 2, false);
        due.is("abend(3, 5)", x.abend(3, 5), 3);
        exitsAre(due, x, 2, 1, 1);
        orderIs(due, x, 3, 2, 4);
    }

    private static void loseAllUnhandled(Due due) {
        due.says("unhandled: all on the way");
        AbendRows x = oneExitEach(4);
        due.is("abend(3, 5)", x.abend(3, 5), -1);
        exitsAre(due, x, 0, 0, 0, 1);
    }

    private static void loseNoneOffTheWay(Due due) {
        due.says("on the way");
        AbendRows x = oneExitEach(3);
        due.is("level(2)", x.level(2), 4);
        due.is("level(0)", x.level(0), 5);
        x.exit(4, 0, false);
        x.exit(5, 0, false);
        due.is("abend(3, 5)", x.abend(3, 5), -1);
        exitsAre(due, x, 0, 0, 0, 1, 1);
        orderIs(due, x, 3, 2, 1);
    }

    private static void lostExitsAreAskedNoMore(Due due) {
        due.says("lose their exits");
        AbendRows x = chain(2);
        x.exit(1, 1, false);
        x.exit(2, 0, false);
        due.is("abend(2, 5), level 2 loses exit 2", x.abend(2, 5), 1);
        orderIs(due, x, 2, 1);
        due.is("abend(2, 5)", x.abend(2, 5), 1);
        orderIs(due, x, 1);
    }

    private static void lostExitsStayLostBehindNewOnes(Due due) {
        due.says("lose their exits");
        AbendRows x = chain(1);
        x.exit(1, 0, false);
        due.is("abend(1, 5), level 1 loses exit 1", x.abend(1, 5), -1);
        x.exit(1, 0, false);
        exitsAre(due, x, 1);
        due.is("abend(1, 5)", x.abend(1, 5), -1);
        orderIs(due, x, 2);
    }

    private static void orderBeforeAnyAbend(Due due) {
        due.says("0 when there is none");
        AbendRows x = chain(1);
        x.exit(1, 1, false);
        int[] places = {Integer.MIN_VALUE, -1, 0, 1, 199, 200, Integer.MAX_VALUE};
        for (int i : places) {
            due.is("order(" + i + ")", x.order(i), 0);
        }
    }

    private static void orderAtItsEnds(Due due) {
        due.says("from 0 on; 0 when there is none");
        AbendRows x = chain(1);
        x.exit(1, 0, false);
        x.exit(1, 0, false);
        x.abend(1, 5);
        due.is("order(-1)", x.order(-1), 0);
        due.is("order(0)", x.order(0), 2);
        due.is("order(1)", x.order(1), 1);
        due.is("order(2)", x.order(2), 0);
        due.is("order(MIN)", x.order(Integer.MIN_VALUE), 0);
        due.is("order(MAX)", x.order(Integer.MAX_VALUE), 0);
    }

    private static void orderOfNoneAsked(Due due) {
        due.says("0 when there is none");
        AbendRows x = chain(2);
        x.exit(1, 1, false);
        x.abend(1, 5);
        due.is("order(0)", x.order(0), 1);
        x.cancel(1);
        due.is("abend(2, 5)", x.abend(2, 5), -1);
        due.is("order(0)", x.order(0), 0);
    }

    private static void orderIsOfTheLatestAlone(Due due) {
        due.says("that the latest abend() asked");
        AbendRows x = chain(2);
        x.exit(1, 1, false);
        x.exit(1, 0, false);
        x.level(0);
        x.exit(3, 1, false);
        x.abend(1, 5);
        orderIs(due, x, 2, 1);
        x.abend(3, 5);
        orderIs(due, x, 3);
        due.is("order(1), none of the one before", x.order(1), 0);
    }

    private static void orderOutlivesTheExits(Due due) {
        due.says("The i-th exit that the latest abend() asked");
        AbendRows x = chain(1);
        x.exit(1, 1, false);
        x.abend(1, 5);
        x.cancel(1);
        orderIs(due, x, 1);
        x.exit(1, 0, false);
        orderIs(due, x, 1);
    }

    private static void orderAtItsLongest(Due due) {
        due.says("The i-th exit that the latest abend() asked, from 0 on");
        AbendRows x = chain(20);
        for (int n = 0; n < 200; n++) {
            x.exit(n / 10 + 1, 0, false);
        }
        due.is("abend(20, 5)", x.abend(20, 5), -1);
        for (int i = 0; i < 200; i++) {
            due.is("order(" + i + ")", x.order(i), 200 - i);
        }
        due.is("order(200)", x.order(200), 0);
    }

    private static void orderHasEachOnce(Due due) {
        due.says("each at most once by one abend");
        AbendRows x = chain(2);
        x.exit(1, 2, false);
        x.exit(2, 2, false);
        x.exit(2, 0, true);
        due.is("abend(2, 5), exit 2 retries", x.abend(2, 5), 2);
        orderIs(due, x, 3, 2);
        due.is("abend(2, 5), exit 1 retries", x.abend(2, 5), 2);
        orderIs(due, x, 3, 2, 1);
        due.is("abend(2, 5), none retries", x.abend(2, 5), -1);
        orderIs(due, x, 3, 2, 1);
        due.is("count(105)", x.count(105), 3);
    }

    private static void orderIsNotOfRestarts(Due due) {
        due.says("that the latest abend() asked");
        AbendRows x = chain(1);
        x.exit(1, 1, false);
        x.abend(1, 5);
        x.restart(1, 5);
        x.loop(1, 1001);
        orderIs(due, x, 1);
        exitsAre(due, x, 1);
    }
}
