/** Promise 12: how much there is of the script, the lines and the commands. */
public final class Promise12CountTest {
    public static void main(String[] args) {
        StreamForge forge = Checks.parsed("p;{d}", "abc", "", "abcdefghijklmnopqrstuvwx");
        Checks.answers("characters", 5, () -> forge.count(0));
        Checks.answers("lines", 3, () -> forge.count(1));
        Checks.answers("commands", 3, () -> forge.count(2));
        Checks.answers("line 0", 3, () -> forge.count(10));
        Checks.answers("line 1", 0, () -> forge.count(11));
        Checks.answers("line 2", 24, () -> forge.count(12));
        Checks.answers("no line 3", 0, () -> forge.count(13));
        Checks.answers("no line 11", 0, () -> forge.count(21));
        for (int wrong : new int[] {-1, 3, 4, 9, Integer.MIN_VALUE}) {
            Checks.refuses("count(" + wrong + ")", IllegalArgumentException.class, () -> forge.count(wrong));
        }
        Checks.write(forge, ";k");
        Checks.answers("more characters", 7, () -> forge.count(0));
        Checks.refuses("parse", IllegalArgumentException.class, forge::parse);
        Checks.answers("the commands that were parsed", 3, () -> forge.count(2));
        forge.clear(0);
        Checks.answers("no characters", 0, () -> forge.count(0));
        Checks.answers("commands parsed all the same", 3, () -> forge.count(2));
        forge.parse();
        Checks.answers("no commands", 0, () -> forge.count(2));
        forge.clear(1);
        Checks.answers("no lines", 0, () -> forge.count(1));
        Checks.answers("no line 0", 0, () -> forge.count(10));
        Checks.end();
    }
}
