/** Promise 12: how much there is of the script, the lines and the commands. */
public final class Promise12CountTest {
    public static void main(String[] args) {
        characters();
        lines();
        commands();
        charactersOfLines();
        wrongWhats();
        Checks.end();
    }

    private static void characters() {
        StreamForge forge = new StreamForge();
        Checks.answers("no characters", 0, () -> forge.count(0));
        Checks.write(forge, "p;k");
        Checks.answers("three characters", 3, () -> forge.count(0));
        forge.clear(0);
        Checks.answers("none after clear", 0, () -> forge.count(0));
        Checks.write(forge, ";".repeat(240));
        Checks.answers("240 characters", 240, () -> forge.count(0));
    }

    private static void lines() {
        StreamForge forge = new StreamForge();
        for (int lines = 0; lines < 12; lines++) {
            int due = lines;
            Checks.answers(lines + " lines", due, () -> forge.count(1));
            forge.line('a', 0);
        }
        Checks.answers("12 lines", 12, () -> forge.count(1));
        forge.clear(1);
        Checks.answers("none after clear", 0, () -> forge.count(1));
    }

    private static void commands() {
        StreamForge forge = Checks.written("p;{d}");
        Checks.answers("none before a parse", 0, () -> forge.count(2));
        forge.parse();
        Checks.answers("three commands, a } not counted", 3, () -> forge.count(2));
        Checks.write(forge, ";k");
        Checks.answers("more script changes nothing", 3, () -> forge.count(2));
        Checks.refuses("parse", Checks.WRONG, forge::parse);
        Checks.answers("a refused parse changes nothing", 3, () -> forge.count(2));
        forge.clear(0);
        Checks.answers("nor does clear", 3, () -> forge.count(2));
        forge.parse();
        Checks.answers("no commands", 0, () -> forge.count(2));
        StreamForge most = Checks.parsed("p;".repeat(40));
        Checks.answers("forty commands", 40, () -> most.count(2));
    }

    private static void charactersOfLines() {
        StreamForge forge = Checks.written("", "abc", "", "abcdefghijklmnopqrstuvwx");
        int[] due = {3, 0, 24, 0, 0, 0, 0, 0, 0, 0, 0, 0};
        for (int j = 0; j < due.length; j++) {
            int asked = j;
            Checks.answers("characters of line " + j, due[j], () -> forge.count(10 + asked));
        }
        forge.clear(1);
        Checks.answers("no line 0", 0, () -> forge.count(10));
        Checks.answers("no line 2", 0, () -> forge.count(12));
        Checks.feed(forge, "a", "b", "c", "d", "e", "f", "g", "h", "i", "j", "k", "lm");
        Checks.answers("line 2", 1, () -> forge.count(12));
        Checks.answers("line 11", 2, () -> forge.count(21));
    }

    private static void wrongWhats() {
        for (int wrong : new int[] {-1, 3, 4, 8, 9, -10, Integer.MIN_VALUE}) {
            Checks.leavesAll("count(" + wrong + ")", Checks.WRONG,
                    () -> Checks.ran("s/a/b/", "a", "c"), forge -> forge.count(wrong));
        }
    }
}
