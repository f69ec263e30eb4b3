/** Promise 11: where the pattern of an s matches a line: leftmost, longest, the first star most. */
public final class Promise11MatchTest {
    public static void main(String[] args) {
        items();
        sets();
        stars();
        groups();
        leftmostAndLongest();
        atTheEdgesOfALine();
        commandsAndLines();
        commandsThatAreNoS();
        whatIsLookedAt();
        refusals();
        Checks.end();
    }

    /** The match's place and length, then those of the groups, as far as they are given. */
    private static void matches(String pattern, String line, int... due) {
        StreamForge forge = Checks.parsed("s/" + pattern + "//", line);
        for (int what = 0; what < 8; what++) {
            int asked = what;
            int wanted = due[0] == -2 ? -2 : what < due.length ? due[what] : -1;
            Checks.answers(pattern + " in " + Checks.shown(line) + ", what " + what, wanted,
                    () -> forge.match(0, 0, asked));
        }
    }

    private static void items() {
        matches("", "abc", 0, 0);
        matches("", "", 0, 0);
        matches("b", "abb", 1, 1);
        matches("x", "abb", -2);
        matches("a", "", -2);
        matches("b.", "abcb", 1, 2);
        matches("b.", "ab", -2);
        matches("^b", "ab", -2);
        matches("^a", "aa", 0, 1);
        matches("a$", "aa", 1, 1);
        matches("^$", "", 0, 0);
        matches("^$", "a", -2);
        matches("$", "ab", 2, 0);
        matches("^", "ab", 0, 0);
        matches("^^", "a^", -2);
        matches("^^", "^", 0, 1);
        matches("$$", "a$", 1, 1);
        matches("a$b", "a$b", 0, 3);
        matches("a^b", "a^b", 0, 3);
        matches("\\(^\\)", "a^", 1, 1, 1, 1);
        matches("\\($\\)", "a$b", 1, 1, 1, 1);
        matches("\\.\\*\\[\\/\\\\\\^\\$", "x.*[/\\^$", 1, 7);
        matches("\\.", "a", -2);
        matches("{|}+?()]", "a{|}+?()]", 1, 8);
    }

    private static void sets() {
        matches("[b-d]", "aed", 2, 1);
        matches("[b-d]", "ae", -2);
        matches("[^a]", "aab", 2, 1);
        matches("[^ -~]", "aab", -2);
        matches("[a-]", "x-", 1, 1);
        matches("[-a]", "x-", 1, 1);
        matches("[--0]", "+.", 1, 1);
        matches("[a-c-e]", "d-", 1, 1);
        matches("[\\n]", "x\\", 1, 1);
        matches("[a^]", "x^", 1, 1);
        matches("[^^]", "^x", 1, 1);
        matches("[.*]", "a*", 1, 1);
        matches("[[]", "a[", 1, 1);
        matches("[ ~]", "a~", 1, 1);
        matches("[!-}]*", " ~ab}!?_`@ ", 0, 0);
        matches("[!-}][!-}]*", " ~ab}!?_`@ ", 2, 8);
    }

    private static void stars() {
        matches("a*", "baa", 0, 0);
        matches("a*b", "aab", 0, 3);
        matches(".*", "abc", 0, 3);
        matches(".*b", "abcbc", 0, 4);
        matches("a*ab*", "aaabb", 0, 5);
        matches("[ab]*b", "abbac", 0, 3);
        matches("\\(a*\\)\\(a*\\)", "aaa", 0, 3, 0, 3, 3, 0);
        matches("\\(a*\\)\\([ab]*\\)\\1", "aabaa", 0, 5, 0, 2, 2, 1);
        matches("\\(a*\\)b*\\1", "aabb", 0, 2, 0, 1);
        matches("\\(a*\\)b*\\1", "aabbaa", 0, 6, 0, 2);
        matches("\\(a*\\)\\(b*\\)\\1\\2", "aab", 0, 2, 0, 1, 1, 0);
        // the longest one, though the first star could take one more in a shorter one
        matches("a*\\(.\\).*\\1", "aabba", 0, 5, 1, 1);
    }

    private static void groups() {
        matches("\\(a\\)\\(b\\)\\(c\\)", "xabc", 1, 3, 1, 1, 2, 1, 3, 1);
        matches("\\(\\)a", "xa", 1, 1, 1, 0);
        matches("\\(.\\)\\1", "abccd", 2, 2, 2, 1);
        matches("\\(.*\\)\\1", "abab", 0, 4, 0, 2);
        matches("^\\(.*\\)\\1$", "ababa", -2);
        matches("\\(a\\)\\(b*\\)\\2\\1", "abba", 0, 4, 0, 1, 1, 1);
        matches("\\(ab*\\)c\\1", "abbcab", -2);
        matches("\\(ab*\\)c\\1", "ababcabab", 2, 5, 2, 2);
    }

    /** The least place, then the longest way there, then the one whose first star takes most. */
    private static void leftmostAndLongest() {
        matches("b*", "abbb", 0, 0);
        matches("bb*", "abbb", 1, 3);
        matches("a.*c", "abcabc", 0, 6);
        matches("a[^c]*c", "abcabc", 0, 3);
        matches("\\(a*\\)\\(a*\\)", "aaaa", 0, 4, 0, 4, 4, 0);
        matches("\\(a*\\)\\(a*\\)a", "aaaa", 0, 4, 0, 3, 3, 0);
        matches("\\(a*\\)a\\(a*\\)", "aaaa", 0, 4, 0, 3, 4, 0);
        matches("\\(.*\\)b\\(.*\\)", "abab", 0, 4, 0, 3, 4, 0);
        matches("\\(a*\\)\\(.*\\)$", "aab", 0, 3, 0, 2, 2, 1);
        matches("\\([ab]*\\)\\(b*\\)c", "abbc", 0, 4, 0, 3, 3, 0);
        matches("\\(a*\\)\\(.*\\)\\1b", "aaxab", 0, 5, 0, 1, 1, 2);
        // a longer way is better than a first star that takes more
        matches("a*\\(.\\).*\\1", "aabba", 0, 5, 1, 1);
        // and a place further left is better than a longer way
        matches("ab*", "aabb", 0, 1);
    }

    private static void atTheEdgesOfALine() {
        String line = "abcdefghijklmnopqrstuvwx";
        matches("a", line, 0, 1);
        matches("x", line, 23, 1);
        matches("x$", line, 23, 1);
        matches("$", line, 24, 0);
        matches("y*$", line, 24, 0);
        matches("^.*$", line, 0, 24);
        matches("^.*w", line, 0, 23);
        matches(".*\\(x\\)\\(\\)", line, 0, 24, 23, 1, 24, 0);
        matches("x.", line, -2);
        matches("x..*", line, -2);
        matches("\\(x\\)\\1", line, -2);
        matches("^b", line, -2);
        matches("w$", line, -2);
        matches("a*", "", 0, 0);
        matches(".", "", -2);
        matches("\\(\\)\\1$", "", 0, 0, 0, 0);
    }

    private static void commandsAndLines() {
        StreamForge forge = Checks.parsed("s/a/x/;{p;s/b/x/};" + "p;".repeat(35) + "s/c/x/",
                "abc", "bca", "", "", "", "", "", "", "", "", "", "..c");
        Checks.answers("command 0 in line 0", 0, () -> forge.match(0, 0, 0));
        Checks.answers("command 0 in line 1", 2, () -> forge.match(0, 1, 0));
        Checks.answers("command 3 in line 0", 1, () -> forge.match(3, 0, 0));
        Checks.answers("command 39 in line 0", 2, () -> forge.match(39, 0, 0));
        Checks.answers("command 39 in line 11", 2, () -> forge.match(39, 11, 0));
        Checks.answers("command 39 in line 2", -2, () -> forge.match(39, 2, 0));
        for (int other : new int[] {1, 2, 4, 38}) {
            Checks.refuses("command " + other + " is no s", Checks.WRONG, () -> forge.match(other, 0, 0));
        }
        Checks.refuses("no command 40", Checks.NO_SUCH, () -> forge.match(40, 0, 0));
        Checks.refuses("no line 12", Checks.NO_SUCH, () -> forge.match(39, 12, 0));
    }

    /** Every kind of command but s is refused. */
    private static void commandsThatAreNoS() {
        String[] others = {"p", "y/a/b/", "/a/p", "{s/a/b/}", ":a", "b", "t", "a s", "i s", "c s", "=", "q"};
        for (String other : others) {
            StreamForge forge = Checks.parsed(other, "a");
            Checks.refuses(Checks.shown(other) + " is no s", Checks.WRONG, () -> forge.match(0, 0, 0));
            Checks.refuses(Checks.shown(other) + " is no s", Checks.WRONG, () -> forge.match(0, 0, 7));
        }
        StreamForge addressed = Checks.parsed("/b/,2!s/a/x/gp2", "ba");
        Checks.answers("an s with addresses and flags", 1, () -> addressed.match(0, 0, 0));
    }

    /** The line as it was given, and what was parsed latest. */
    private static void whatIsLookedAt() {
        StreamForge forge = Checks.ran("s/a/bbb/", "ca");
        Checks.answers("the line, not the space", 1, () -> forge.match(0, 0, 0));
        forge.more('a');
        forge.clear(0);
        Checks.write(forge, "s/aa/x/");
        Checks.answers("a script that is not parsed", 1, () -> forge.match(0, 0, 1));
        forge.parse();
        Checks.answers("a script that is parsed", 2, () -> forge.match(0, 0, 1));
        Checks.write(forge, "k");
        Checks.refuses("parse", Checks.WRONG, forge::parse);
        Checks.answers("the one that was parsed", 2, () -> forge.match(0, 0, 1));
        forge.clear(1);
        Checks.refuses("no line", Checks.NO_SUCH, () -> forge.match(0, 0, 1));
        // what a longer line left behind is not looked at
        forge.line('a', 0);
        Checks.answers("a shorter line", -2, () -> forge.match(0, 0, 0));
        StreamForge again = Checks.parsed("s/\\(ab\\)\\1/x/", "abab");
        again.clear(1);
        Checks.feed(again, "aba");
        Checks.answers("a shorter line again", -2, () -> again.match(0, 0, 0));
    }

    private static StreamForge two() {
        return Checks.ran("p;s/b/x/", "ab", "b");
    }

    private static void refusals() {
        for (int what : new int[] {-1, 8, 9, 100, Integer.MIN_VALUE, Integer.MAX_VALUE}) {
            Checks.leavesAll("another what", Checks.WRONG, Promise11MatchTest::two, forge -> forge.match(1, 0, what));
        }
        for (int k : new int[] {-1, 2, 3, 40, Integer.MIN_VALUE, Integer.MAX_VALUE}) {
            Checks.leavesAll("no command", Checks.NO_SUCH, Promise11MatchTest::two, forge -> forge.match(k, 0, 0));
        }
        for (int j : new int[] {-1, 2, 3, 12, Integer.MIN_VALUE, Integer.MAX_VALUE}) {
            Checks.leavesAll("no line", Checks.NO_SUCH, Promise11MatchTest::two, forge -> forge.match(1, j, 0));
        }
        Checks.leavesAll("no s", Checks.WRONG, Promise11MatchTest::two, forge -> forge.match(0, 0, 0));
        Checks.leavesAll("nothing parsed", Checks.NOT_NOW,
                () -> Checks.written("s/a/b/", "a"), forge -> forge.match(0, 0, 0));
        StreamForge forge = two();
        for (int what = 0; what < 8; what++) {
            forge.match(1, 0, what);
        }
        Checks.equal("all after matches", Checks.allOf(forge), Checks.allOf(two()));
    }
}
