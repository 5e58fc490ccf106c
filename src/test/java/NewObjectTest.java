/** Promise 1: a new object holds nothing, whatever an earlier one holds. */
public final class NewObjectTest {
    public static void main(String[] args) {
        Due due = new Due();
        due.is("NONE", AbendRows.NONE, -1);
        holdsNothing(due, new AbendRows());
        AbendRows used = new AbendRows();
        use(used);
        holdsNothing(due, new AbendRows());
        due.is("the used one's told(1, 0)", used.told(1, 0), 1);
        due.end();
    }

    private static void use(AbendRows x) {
        x.level(0);
        x.exit(1, 1, false);
        x.abend(1, 5);
        x.guard(1, 1);
        x.restart(1, 5);
        x.suppress(6, true);
        x.loop(1, 1000);
    }

    private static void holdsNothing(Due due, AbendRows x) {
        due.is("told(1, 0)", x.told(1, 0), -1);
        due.is("cancel(1)", x.cancel(1), -2);
        due.is("order(0)", x.order(0), 0);
        due.is("write(1, 0)", x.write(1, 0), -2);
        due.is("dump(1, 0, 0)", x.dump(1, 0, 0), -1);
        due.is("count(5)", x.count(5), 0);
        due.is("suppress(6, false)", x.suppress(6, false), 0);
        due.is("loop(1, 1000)", x.loop(1, 1000), 0);
        due.is("level(0)", x.level(0), 1);
        due.is("exit(1, 0, false)", x.exit(1, 0, false), 1);
        due.is("guard(1, 1)", x.guard(1, 1), 1);
        for (int code = 1; code <= 9999; code += 101) {
            due.is("suppress", x.suppress(code, false), 0);
            due.is("count", x.count(code), 0);
        }
    }
}
