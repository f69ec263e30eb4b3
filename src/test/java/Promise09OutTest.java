import java.util.Arrays;

/** Promise 9: a character of the output of the latest run. */
public final class Promise09OutTest {
    private static final int[] FAR = {-1, Integer.MIN_VALUE, Integer.MAX_VALUE};

    public static void main(String[] args) {
        withoutOutput();
        eachCharacter();
        lastOfAFullOutput();
        ofTheLatestRun();
        ofARunThatThrew();
        refusals();
        Checks.end();
    }

    private static void withoutOutput() {
        StreamForge forge = Checks.parsed("d", "a");
        Checks.refuses("out(0) before a run", Checks.NO_SUCH, () -> forge.out(0));
        forge.run();
        Checks.refuses("out(0) of a run that told nothing", Checks.NO_SUCH, () -> forge.out(0));
    }

    private static void eachCharacter() {
        StreamForge forge = Checks.ran("", "a~", " ");
        int[] due = {'a', '~', 10, ' ', 10};
        for (int k = 0; k < due.length; k++) {
            int asked = k;
            Checks.answers("out(" + k + ")", due[k], () -> forge.out(asked));
        }
        Checks.refuses("out(5)", Checks.NO_SUCH, () -> forge.out(5));
        Checks.refuses("out(6)", Checks.NO_SUCH, () -> forge.out(6));
    }

    private static void lastOfAFullOutput() {
        String[] lines = new String[12];
        Arrays.fill(lines, "abcdefghijklmnopqrstuvwx");
        StreamForge full = Checks.parsed("p", lines);
        Checks.answers("a full output", 600, full::run);
        Checks.answers("out(598)", 'x', () -> full.out(598));
        Checks.answers("out(599)", 10, () -> full.out(599));
        Checks.refuses("out(600)", Checks.NO_SUCH, () -> full.out(600));
        full.clear(1);
        full.line('z', 0);
        full.run();
        Checks.answers("out(3) of a shorter run", 10, () -> full.out(3));
        Checks.refuses("out(4) of a shorter run", Checks.NO_SUCH, () -> full.out(4));
    }

    private static void ofTheLatestRun() {
        StreamForge forge = Checks.ran("", "a");
        forge.clear(1);
        forge.line('b', 0);
        forge.script('d');
        forge.parse();
        Checks.answers("out(0) until the next run", 'a', () -> forge.out(0));
        forge.run();
        Checks.refuses("out(0) of a run that told nothing", Checks.NO_SUCH, () -> forge.out(0));
    }

    private static void ofARunThatThrew() {
        StreamForge broken = Checks.breaks("p;:a;ba", Checks.TOO_MANY, "x\n", "x");
        Checks.answers("what came before stays told", 'x', () -> broken.out(0));
        Checks.answers("and its 10", 10, () -> broken.out(1));
        Checks.refuses("and no more", Checks.NO_SUCH, () -> broken.out(2));
    }

    private static void refusals() {
        for (int wrong : FAR) {
            Checks.leavesAll("out(" + wrong + ")", Checks.NO_SUCH,
                    () -> Checks.ran("s/a/b/", "a", "c"), forge -> forge.out(wrong));
        }
        Checks.leavesAll("out(4)", Checks.NO_SUCH, () -> Checks.ran("s/a/b/", "a", "c"), forge -> forge.out(4));
    }
}
