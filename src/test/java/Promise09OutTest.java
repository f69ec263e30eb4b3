import java.util.Arrays;

/** Promise 9: a character of the output of the latest run. */
public final class Promise09OutTest {
    public static void main(String[] args) {
        StreamForge forge = Checks.parsed("", "a~", " ");
        Checks.refuses("out before a run", IndexOutOfBoundsException.class, () -> forge.out(0));
        forge.run();
        int[] due = {'a', '~', 10, ' ', 10};
        for (int k = 0; k < due.length; k++) {
            int asked = k;
            Checks.answers("out(" + k + ")", due[k], () -> forge.out(asked));
        }
        for (int wrong : new int[] {5, 6, -1, 600, Integer.MAX_VALUE, Integer.MIN_VALUE}) {
            Checks.refuses("out(" + wrong + ")", IndexOutOfBoundsException.class, () -> forge.out(wrong));
        }
        forge.clear(1);
        Checks.answers("the output stays", 'a', () -> forge.out(0));
        forge.run();
        Checks.refuses("out of an empty run", IndexOutOfBoundsException.class, () -> forge.out(0));
        StreamForge broken = Checks.breaks("p;:a;ba", ArithmeticException.class, "x\n", "x");
        Checks.answers("what came before stays told", 'x', () -> broken.out(0));
        Checks.refuses("and no more", IndexOutOfBoundsException.class, () -> broken.out(2));
        lastCharacter();
        Checks.end();
    }

    private static void lastCharacter() {
        String[] lines = new String[12];
        Arrays.fill(lines, "abcdefghijklmnopqrstuvwx");
        StreamForge full = Checks.parsed("p", lines);
        Checks.answers("a full output", 600, full::run);
        Checks.answers("out(598)", 'x', () -> full.out(598));
        Checks.answers("out(599)", 10, () -> full.out(599));
        Checks.refuses("out(600)", IndexOutOfBoundsException.class, () -> full.out(600));
    }
}
