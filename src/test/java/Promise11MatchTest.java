/** Promise 11: where the pattern of an s matches a line: leftmost, longest, the first star most. */
public final class Promise11MatchTest {
    public static void main(String[] args) {
        items();
        sets();
        stars();
        groups();
        refusals();
        Checks.end();
    }

    /** The match's place and length, then those of the groups, as far as they are given. */
    private static void matches(String pattern, String line, int... due) {
        StreamForge forge = Checks.parsed("s/" + pattern + "//", line);
        for (int what = 0; what < 8; what++) {
            int asked = what;
            int wanted = due[0] == -2 ? -2 : what < due.length ? due[what] : -1;
            Checks.answers(pattern + " in " + Checks.shown(line) + ", what " + what, wanted,
                    () -> forge.match(0, 0, asked));
        }
    }

    private static void items() {
        matches("", "abc", 0, 0);
        matches("", "", 0, 0);
        matches("b", "abb", 1, 1);
        matches("x", "abb", -2);
        matches("a", "", -2);
        matches("b.", "abcb", 1, 2);
        matches("b.", "ab", -2);
        matches("^b", "ab", -2);
        matches("^a", "aa", 0, 1);
        matches("a$", "aa", 1, 1);
        matches("^$", "", 0, 0);
        matches("^$", "a", -2);
        matches("$", "ab", 2, 0);
        matches("^", "ab", 0, 0);
        matches("^^", "a^", -2);
        matches("^^", "^", 0, 1);
        matches("$$", "a$", 1, 1);
        matches("a$b", "a$b", 0, 3);
        matches("a^b", "a^b", 0, 3);
        matches("\\(^\\)", "a^", 1, 1, 1, 1);
        matches("\\($\\)", "a$b", 1, 1, 1, 1);
        matches("\\.\\*\\[\\/\\\\\\^\\$", "x.*[/\\^$", 1, 7);
        matches("\\.", "a", -2);
        matches("{|}+?()]", "a{|}+?()]", 1, 8);
    }

    private static void sets() {
        matches("[b-d]", "aed", 2, 1);
        matches("[b-d]", "ae", -2);
        matches("[^a]", "aab", 2, 1);
        matches("[^ -~]", "aab", -2);
        matches("[a-]", "x-", 1, 1);
        matches("[-a]", "x-", 1, 1);
        matches("[--0]", "+.", 1, 1);
        matches("[a-c-e]", "d-", 1, 1);
        matches("[\\n]", "x\\", 1, 1);
        matches("[a^]", "x^", 1, 1);
        matches("[^^]", "^x", 1, 1);
        matches("[.*]", "a*", 1, 1);
        matches("[[]", "a[", 1, 1);
        matches("[ ~]", "a~", 1, 1);
        matches("[!-}]*", " ~ab}!?_`@ ", 0, 0);
        matches("[!-}][!-}]*", " ~ab}!?_`@ ", 2, 8);
    }

    private static void stars() {
        matches("a*", "baa", 0, 0);
        matches("a*b", "aab", 0, 3);
        matches(".*", "abc", 0, 3);
        matches(".*b", "abcbc", 0, 4);
        matches("a*ab*", "aaabb", 0, 5);
        matches("[ab]*b", "abbac", 0, 3);
        matches("\\(a*\\)\\(a*\\)", "aaa", 0, 3, 0, 3, 3, 0);
        matches("\\(a*\\)\\([ab]*\\)\\1", "aabaa", 0, 5, 0, 2, 2, 1);
        matches("\\(a*\\)b*\\1", "aabb", 0, 2, 0, 1);
        matches("\\(a*\\)b*\\1", "aabbaa", 0, 6, 0, 2);
        matches("\\(a*\\)\\(b*\\)\\1\\2", "aab", 0, 2, 0, 1, 1, 0);
        // the longest one, though the first star could take one more in a shorter one
        matches("a*\\(.\\).*\\1", "aabba", 0, 5, 1, 1);
    }

    private static void groups() {
        matches("\\(a\\)\\(b\\)\\(c\\)", "xabc", 1, 3, 1, 1, 2, 1, 3, 1);
        matches("\\(\\)a", "xa", 1, 1, 1, 0);
        matches("\\(.\\)\\1", "abccd", 2, 2, 2, 1);
        matches("\\(.*\\)\\1", "abab", 0, 4, 0, 2);
        matches("^\\(.*\\)\\1$", "ababa", -2);
        matches("\\(a\\)\\(b*\\)\\2\\1", "abba", 0, 4, 0, 1, 1, 1);
        matches("\\(ab*\\)c\\1", "abbcab", -2);
        matches("\\(ab*\\)c\\1", "ababcabab", 2, 5, 2, 2);
    }

    private static void refusals() {
        StreamForge forge = Checks.parsed("p;s/b/x/;y/a/b/", "ab");
        Checks.answers("match(1, 0, 0)", 1, () -> forge.match(1, 0, 0));
        for (int wrong : new int[] {-1, 8, 100, Integer.MIN_VALUE}) {
            Checks.refuses("another what", IllegalArgumentException.class, () -> forge.match(1, 0, wrong));
            Checks.refuses("and no command", IllegalArgumentException.class, () -> forge.match(9, 9, wrong));
        }
        Checks.refuses("p is no s", IllegalArgumentException.class, () -> forge.match(0, 0, 0));
        Checks.refuses("y is no s", IllegalArgumentException.class, () -> forge.match(2, 0, 7));
        Checks.refuses("no s, no line", IllegalArgumentException.class, () -> forge.match(0, 1, 0));
        for (int wrong : new int[] {-1, 3, 40, Integer.MAX_VALUE, Integer.MIN_VALUE}) {
            Checks.refuses("no command", IndexOutOfBoundsException.class, () -> forge.match(wrong, 0, 0));
        }
        for (int wrong : new int[] {-1, 1, 12, Integer.MAX_VALUE, Integer.MIN_VALUE}) {
            Checks.refuses("no line", IndexOutOfBoundsException.class, () -> forge.match(1, wrong, 0));
        }
        StreamForge fresh = new StreamForge();
        fresh.line(65, 0);
        Checks.refuses("nothing parsed", IllegalStateException.class, () -> fresh.match(0, 0, 0));
        Checks.refuses("nothing parsed, no line", IllegalStateException.class, () -> fresh.match(0, 5, 0));
        Checks.refuses("nothing parsed, wrong what", IllegalArgumentException.class, () -> fresh.match(0, 0, 8));
        forge.run();
        forge.match(1, 0, 0);
        Checks.answers("a match leaves the run's answers", 6, () -> forge.ran(0));
    }
}
