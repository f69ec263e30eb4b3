/** Promise 1: an empty script, no lines, nothing parsed. */
public final class Promise01NewObjectTest {
    public static void main(String[] args) {
        nothingIsThere();
        noRunIsTold();
        nothingIsParsed();
        twoObjectsShareNothing();
        Checks.end();
    }

    private static void nothingIsThere() {
        StreamForge forge = new StreamForge();
        for (int what : new int[] {0, 1, 2, 10, 11, 20, 21}) {
            Checks.answers("count(" + what + ")", 0, () -> forge.count(what));
        }
        Checks.answers("where()", -2, forge::where);
        Checks.refuses("more(0)", Checks.NOT_NOW, () -> forge.more(0));
        Checks.answers("clear(0)", 0, () -> forge.clear(0));
        Checks.answers("clear(1)", 0, () -> forge.clear(1));
        Checks.answers("parse of the empty script", 0, forge::parse);
        Checks.answers("run over no lines", 0, forge::run);
    }

    private static void noRunIsTold() {
        StreamForge forge = new StreamForge();
        Checks.counts("a new object", forge, 0, 0, 0, 0, 0);
        for (int k = 0; k < 60; k++) {
            int asked = k;
            Checks.answers("ran(10 + " + k + ")", -1, () -> forge.ran(10 + asked));
            Checks.answers("ran(100 + " + k + ")", -1, () -> forge.ran(100 + asked));
        }
        Checks.refuses("out(0)", Checks.NO_SUCH, () -> forge.out(0));
    }

    private static void nothingIsParsed() {
        StreamForge forge = new StreamForge();
        Checks.refuses("run()", Checks.NOT_NOW, forge::run);
        Checks.refuses("match(0, 0, 0)", Checks.NOT_NOW, () -> forge.match(0, 0, 0));
        Checks.write(forge, "p");
        Checks.feed(forge, "a");
        Checks.refuses("run with a script and a line", Checks.NOT_NOW, forge::run);
        Checks.answers("its parse", 1, forge::parse);
        Checks.answers("its run", 4, forge::run);
    }

    private static void twoObjectsShareNothing() {
        StreamForge first = Checks.edits("s/a/b/p;h", "b\nb\n", "a");
        StreamForge second = new StreamForge();
        Checks.answers("script of another object", 0, () -> second.count(0));
        Checks.answers("lines of another object", 0, () -> second.count(1));
        Checks.answers("space of another object", -1, () -> second.ran(10));
        Checks.answers("hold of another object", -1, () -> second.ran(100));
        Checks.refuses("run of another object", Checks.NOT_NOW, second::run);
        Checks.answers("output of the first object", 4, () -> first.ran(0));
    }
}
