/** Promise 1: an empty script, no lines, nothing parsed. */
public final class Promise01NewObjectTest {
    public static void main(String[] args) {
        StreamForge forge = new StreamForge();
        Checks.answers("count(0)", 0, () -> forge.count(0));
        Checks.answers("count(1)", 0, () -> forge.count(1));
        Checks.answers("count(2)", 0, () -> forge.count(2));
        Checks.answers("count(10)", 0, () -> forge.count(10));
        Checks.answers("where()", -2, forge::where);
        Checks.refuses("run()", IllegalStateException.class, forge::run);
        Checks.refuses("match(0, 0, 0)", IllegalStateException.class, () -> forge.match(0, 0, 0));
        Checks.refuses("out(0)", IndexOutOfBoundsException.class, () -> forge.out(0));
        Checks.refuses("more(0)", IllegalStateException.class, () -> forge.more(0));
        for (int what = 0; what <= 4; what++) {
            int asked = what;
            Checks.answers("ran(" + what + ")", 0, () -> forge.ran(asked));
        }
        Checks.answers("ran(10)", -1, () -> forge.ran(10));
        Checks.answers("ran(159)", -1, () -> forge.ran(159));
        Checks.answers("clear(0)", 0, () -> forge.clear(0));
        Checks.answers("clear(1)", 0, () -> forge.clear(1));
        twoObjectsShareNothing();
        Checks.end();
    }

    private static void twoObjectsShareNothing() {
        StreamForge first = Checks.edits("s/a/b/p;h", "b\nb\n", "a");
        StreamForge second = new StreamForge();
        Checks.answers("script of another object", 0, () -> second.count(0));
        Checks.refuses("run of another object", IllegalStateException.class, second::run);
        Checks.answers("output of the first object", 4, () -> first.ran(0));
    }
}
