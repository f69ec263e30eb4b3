import java.util.Random;

/** Matches against a plain search that looks at every way, for many patterns and lines. */
public final class SearchTest {
    private static final Random RANDOM = new Random(20261115);

    private SearchTest() {
    }

    public static void main(String[] args) {
        for (int turn = 0; turn < 4000; turn++) {
            compare(new PlainSearch(RANDOM, 7));
        }
        Checks.end();
    }

    private static void compare(PlainSearch search) {
        String pattern = search.written();
        StreamForge forge = Checks.parsed("s/" + pattern + "/x/");
        for (int j = 0; j < 5; j++) {
            String line = newLine();
            Checks.feed(forge, line);
            int[] due = search.search(line, 0);
            for (int what = 0; what < 8; what++) {
                int lineNumber = j;
                int asked = what;
                Checks.answers(pattern + " in " + Checks.shown(line) + ", what " + what, due[what],
                        () -> forge.match(0, lineNumber, asked));
            }
        }
    }

    private static String newLine() {
        StringBuilder text = new StringBuilder();
        for (int left = RANDOM.nextInt(10); left > 0; left--) {
            text.append("aabbc.-".charAt(RANDOM.nextInt(7)));
        }
        return text.toString();
    }
}
