/** Promise 3: the script or the lines become empty, and it is told how many there were. */
public final class Promise03ClearTest {
    public static void main(String[] args) {
        script();
        lines();
        fullOnes();
        whatStays();
        wrongWhats();
        Checks.end();
    }

    private static void script() {
        StreamForge forge = Checks.parsed("p;p", "ab", "c");
        Checks.answers("clear(0)", 3, () -> forge.clear(0));
        Checks.answers("characters", 0, () -> forge.count(0));
        Checks.answers("lines stay", 2, () -> forge.count(1));
        Checks.answers("commands stay", 2, () -> forge.count(2));
        Checks.answers("clear(0) again", 0, () -> forge.clear(0));
        Checks.answers("the parsed script is run", 15, forge::run);
        Checks.answers("a new script", 1, () -> forge.script('d'));
        Checks.answers("its parse", 1, forge::parse);
        Checks.answers("its run", 0, forge::run);
    }

    private static void lines() {
        StreamForge forge = Checks.parsed("p", "ab", "c");
        Checks.answers("clear(1)", 2, () -> forge.clear(1));
        Checks.answers("lines", 0, () -> forge.count(1));
        Checks.answers("characters of line 0", 0, () -> forge.count(10));
        Checks.answers("characters of line 1", 0, () -> forge.count(11));
        Checks.answers("the script stays", 1, () -> forge.count(0));
        Checks.answers("clear(1) again", 0, () -> forge.clear(1));
        Checks.answers("run without lines", 0, forge::run);
        Checks.refuses("more without lines", Checks.NOT_NOW, () -> forge.more(65));
        Checks.answers("a new line 0", 1, () -> forge.line(Checks.word("z"), 0));
        Checks.answers("its characters", 1, () -> forge.count(10));
        Checks.answers("its run", 4, forge::run);
        Checks.equal("its output", Checks.output(forge), "z\nz\n");
    }

    private static void fullOnes() {
        StreamForge forge = Checks.written(";".repeat(240), "a", "b", "c", "d", "e", "f", "g", "h", "i", "j", "k", "l");
        Checks.answers("clear(0) of 240", 240, () -> forge.clear(0));
        Checks.answers("clear(1) of 12", 12, () -> forge.clear(1));
        Checks.write(forge, ";".repeat(240));
        Checks.answers("240 again", 240, () -> forge.count(0));
        for (int lines = 1; lines <= 12; lines++) {
            Checks.answers("line " + lines + " again", lines, () -> forge.line(65, 0));
        }
    }

    private static void whatStays() {
        StreamForge refused = Checks.written("pk");
        Checks.refuses("parse of pk", Checks.WRONG, refused::parse);
        refused.clear(0);
        refused.clear(1);
        Checks.answers("where tells of the latest parse", 1, refused::where);
        StreamForge ran = Checks.ran("h;s/a/b/", "a");
        ran.clear(0);
        ran.clear(1);
        Checks.equal("the output", Checks.output(ran), "b\n");
        Checks.equal("the space", Checks.space(ran), "b");
        Checks.equal("the hold", Checks.hold(ran), "a");
        Checks.counts("the latest run", ran, 2, 1, 2, 1, 1);
    }

    private static void wrongWhats() {
        for (int wrong : new int[] {-1, 2, 3, 10, Integer.MIN_VALUE, Integer.MAX_VALUE}) {
            Checks.leavesAll("clear(" + wrong + ")", Checks.WRONG,
                    () -> Checks.ran("s/a/b/", "a", "c"), forge -> forge.clear(wrong));
        }
    }
}
