/** Promise 3: the script or the lines become empty, and it is told how many there were. */
public final class Promise03ClearTest {
    public static void main(String[] args) {
        StreamForge forge = Checks.parsed("p;p", "ab", "c");
        Checks.answers("clear(0)", 3, () -> forge.clear(0));
        Checks.answers("characters", 0, () -> forge.count(0));
        Checks.answers("lines stay", 2, () -> forge.count(1));
        Checks.answers("commands stay", 2, () -> forge.count(2));
        Checks.answers("clear(0) again", 0, () -> forge.clear(0));
        Checks.answers("clear(1)", 2, () -> forge.clear(1));
        Checks.answers("lines", 0, () -> forge.count(1));
        Checks.answers("characters of line 0", 0, () -> forge.count(10));
        Checks.answers("run without lines", 0, forge::run);
        Checks.refuses("more without lines", IllegalStateException.class, () -> forge.more(65));
        Checks.answers("a new line 0", 1, () -> forge.line(Checks.word("z"), 0));
        Checks.answers("its characters", 1, () -> forge.count(10));
        Checks.answers("the parsed script stays", 6, forge::run);
        for (int wrong : new int[] {-1, 2, 3, 10, Integer.MIN_VALUE, Integer.MAX_VALUE}) {
            Checks.refuses("clear(" + wrong + ")", IllegalArgumentException.class, () -> forge.clear(wrong));
        }
        Checks.answers("nothing is cleared by a wrong what", 1, () -> forge.count(1));
        whereStays();
        Checks.end();
    }

    private static void whereStays() {
        StreamForge forge = new StreamForge();
        Checks.write(forge, "pk");
        Checks.refuses("parse of pk", IllegalArgumentException.class, forge::parse);
        forge.clear(0);
        Checks.answers("where tells of the latest parse", 1, forge::where);
    }
}
