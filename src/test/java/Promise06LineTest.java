/** Promise 6: a line of the characters of two words. */
public final class Promise06LineTest {
    public static void main(String[] args) {
        StreamForge forge = Checks.parsed("");
        Checks.answers("an empty line", 1, () -> forge.line(0, 0));
        Checks.answers("a line of both", 2, () -> forge.line(Checks.word("abcdefgh"), Checks.word("ijklmnop")));
        Checks.answers("a line of the second word", 3, () -> forge.line(0, Checks.word("xy")));
        Checks.answers("zeros left out", 4, () -> forge.line(0x6100006200000000L, 0x0000000000630000L));
        Checks.answers("the edges 32 and 126", 5, () -> forge.line(0x207EL, 0));
        forge.run();
        Checks.equal("the lines", Checks.output(forge), "\nabcdefghijklmnop\nxy\nabc\n ~\n");
        for (int wrong : new int[] {1, 9, 10, 31, 127, 128, 255}) {
            Checks.refuses("line(" + wrong + ", 0)", IllegalArgumentException.class, () -> forge.line(wrong, 0));
            Checks.refuses("line(65, " + wrong + ")", IllegalArgumentException.class, () -> forge.line(65, wrong));
        }
        Checks.refuses("line(-1, 0)", IllegalArgumentException.class, () -> forge.line(-1, 0));
        Checks.answers("no line has come", 5, () -> forge.count(1));
        for (int lines = 6; lines <= 12; lines++) {
            Checks.answers("line " + lines, lines, () -> forge.line(65, 66));
        }
        Checks.refuses("a 13th line", IllegalStateException.class, () -> forge.line(65, 0));
        Checks.refuses("a 13th, empty line", IllegalStateException.class, () -> forge.line(0, 0));
        Checks.refuses("a wrong 13th line", IllegalArgumentException.class, () -> forge.line(0, 10));
        Checks.answers("lines", 12, () -> forge.count(1));
        Checks.end();
    }
}
