/** Terms: what a pattern is, character by character and limit by limit. */
public final class TermsPatternTest {
    private static final String CHARACTERS = between(' ', '~');
    /** All characters, as lines. */
    private static final String[] ALL = {
        between(' ', '7'), between('8', 'O'), between('P', 'g'), between('h', '~')
    };
    private static final String SPECIAL = "/\\[*.^$";
    private static final String THIRTEEN = "aaaaaaaaaaaaa";

    public static void main(String[] args) {
        plainCharacters();
        charactersThatAreNotPlain();
        escapedCharacters();
        beginningsAndEnds();
        dots();
        setsOfOne();
        charactersThatNoSetHas();
        ranges();
        minusInSets();
        circumflexInSets();
        stars();
        atMostTwoStars();
        groups();
        atMostThreeGroups();
        sameAgain();
        atMostFourteenItems();
        whatCountsAsItem();
        emptyPatterns();
        Checks.end();
    }

    private static String between(int a, int b) {
        StringBuilder text = new StringBuilder();
        for (int c = a; c <= b; c++) {
            text.append((char) c);
        }
        return text.toString();
    }

    private static String without(String text, String taken) {
        StringBuilder rest = new StringBuilder();
        for (char c : text.toCharArray()) {
            rest.append(taken.indexOf(c) < 0 ? String.valueOf(c) : "");
        }
        return rest.toString();
    }

    /** The pattern takes each of these characters, and no other one. */
    private static void takes(String pattern, String taken) {
        Checks.edits("s/" + pattern + "//g", without(String.join("\n", ALL), taken) + "\n", ALL);
    }

    private static void plainCharacters() {
        for (char c : without(CHARACTERS, SPECIAL).toCharArray()) {
            takes(String.valueOf(c), String.valueOf(c));
            Checks.parses("/" + c + "/,/a" + c + "/p", 1);
        }
    }

    private static void charactersThatAreNotPlain() {
        Checks.isNone("s/\n/x/", 2);
        Checks.isNone("s/a\n/x/", 3);
        Checks.isNone("s/\\(\n\\)/x/", 4);
        Checks.isNone("s/*/x/", 2);
        // what stood before in another pattern is not what a * repeats
        Checks.isNone("/a/,/*b/p", 5);
        Checks.isNone("/a/s/*/x/", 5);
        Checks.isNone("s/[/x/", 3);
        Checks.isNone("s/\\/x/", 6);
        Checks.isNone("s///x/", 4);
        Checks.isNone("/\n/p", 1);
        Checks.isNone("/a/,/\n/p", 5);
    }

    private static void escapedCharacters() {
        for (char c : SPECIAL.toCharArray()) {
            takes("\\" + c, String.valueOf(c));
        }
        for (char c : without(CHARACTERS, SPECIAL + "(").toCharArray()) {
            Checks.isNone("s/\\" + c + "/x/", 2);
            Checks.isNone("s/b*\\" + c + "/x/", 4);
            Checks.isNone("/\\" + c + "/p", 1);
        }
        Checks.isNone("s/\\\n/x/", 2);
        Checks.isNone("s/\\", 3);
    }

    private static void beginningsAndEnds() {
        Checks.edits("s/^/x/g", "xab\nx\n", "ab", "");
        Checks.edits("s/$/x/g", "abx\nx\n", "ab", "");
        Checks.edits("s/^$/x/", "x\nab\n", "", "ab");
        Checks.edits("s/^a/x/;s/b$/y/", "xay\nbbay\n", "aab", "bbab");
        takes("\\(^\\)", "^");
        takes("\\($\\)", "$");
        takes("\\^", "^");
        takes("\\$", "$");
        Checks.edits("s/^^/x/", "xa\na^\n", "^a", "a^");
        Checks.edits("s/a^/x/", "x\n^a\n", "a^", "^a");
        Checks.edits("s/$$/x/", "ax\n$a\n", "a$", "$a");
        Checks.edits("s/$a/x/", "x\na$\n", "$a", "a$");
        Checks.edits("s/^^$$/x/", "x\n^$^$\n", "^$", "^$^$");
        Checks.edits("s/\\^$/x/", "^x\n", "^^");
        Checks.edits("s/^\\$/x/", "x$\n", "$$");
        Checks.edits("s/a\\$/x/", "x\na\n", "a$", "a");
        Checks.edits("s/$*/x/", "xa\n", "$$a");
        Checks.edits("s/^^*/x/", "xb\n", "^^b");
        Checks.edits("s/a^*$/x/", "ba^b\nx\n", "ba^b", "a^^");
        Checks.isNone("s/^*/x/", 3);
        Checks.isNone("/^*/p", 2);
    }

    private static void dots() {
        takes(".", CHARACTERS);
        Checks.edits("N;s/a.b/x/", "x\n", "a", "b");
        Checks.edits("s/./x/", "\nx\nxb\n", "", "a", "ab");
    }

    private static void setsOfOne() {
        for (char c : without(CHARACTERS, "/]^").toCharArray()) {
            takes("[" + c + "]", String.valueOf(c));
            takes("[^" + c + "]", without(CHARACTERS, String.valueOf(c)));
        }
        Checks.edits("N;s/a[^a]b/x/", "x\n", "a", "b");
        Checks.edits("N;s/a[ -~]b/x/", "a\nb\n", "a", "b");
    }

    private static void charactersThatNoSetHas() {
        for (String c : new String[] {"\n", "/"}) {
            Checks.isNone("s/[" + c + "]/x/", 3);
            Checks.isNone("s/[^" + c + "]/x/", 4);
            Checks.isNone("s/[a" + c + "]/x/", 4);
            Checks.isNone("s/[!-" + c + "]/x/", 5);
            Checks.isNone("s/[" + c + "-0]/x/", 3);
            Checks.isNone("s/[a-b" + c + "]/x/", 6);
            Checks.isNone("/[a" + c + "]/p", 3);
        }
        Checks.isNone("s/[]-a]/x/", 3);
        Checks.isNone("s/[^]-a]/x/", 4);
        // a \ says nothing in a set, and the first ] ends it
        takes("[\\]", "\\");
        takes("[\\n]", "\\n");
        Checks.edits("s/[a\\]]/x/", "x]\nx\na\\\n", "\\]]", "a]", "a\\");
    }

    private static void ranges() {
        for (char a : without(CHARACTERS, "/]^").toCharArray()) {
            for (char b : new char[] {(char) (a - 1), a, (char) (a + 1)}) {
                if (without(CHARACTERS, "/]").indexOf(b) < 0) {
                    continue;
                }
                String set = "[" + a + "-" + b + "]";
                if (b < a) {
                    Checks.isNone("s/" + set + "/x/", 5);
                } else {
                    takes(set, between(a, b));
                }
            }
        }
        takes("[ -~]", CHARACTERS);
        takes("[^!-}]", " ~");
        takes("[.-0]", "./0");
        takes("[A-^]", between('A', '^'));
        takes("[b-da-c]", "abcd");
        Checks.isNone("s/[~- ]/x/", 5);
        Checks.isNone("s/[ab-a]/x/", 6);
    }

    private static void minusInSets() {
        takes("[-]", "-");
        takes("[--]", "-");
        takes("[---]", "-");
        takes("[^-]", without(CHARACTERS, "-"));
        takes("[a-]", "a-");
        takes("[-a]", "-a");
        takes("[a-c-]", "abc-");
        takes("[a-c-e]", "abc-e");
        takes("[a-c-e-g]", "abc-efg");
        takes("[+--]", "+,-");
        takes("[--0]", "-./0");
        takes("[^--0]", without(CHARACTERS, "-./0"));
        Checks.isNone("s/[a--]/x/", 5);
        Checks.isNone("s/[--,]/x/", 5);
    }

    private static void circumflexInSets() {
        takes("[a^]", "a^");
        takes("[^^]", without(CHARACTERS, "^"));
        takes("[^a^]", without(CHARACTERS, "a^"));
        takes("[a^-_]", "a^_");
        takes("[^^-a]", without(CHARACTERS, "^_`a"));
    }

    private static void stars() {
        for (String item : new String[] {"a", "[a]", "[^bc]", "."}) {
            Checks.edits("s/^b" + item + "*c$/x/", "x\nx\nx\nb\nc\n", "bc", "bac", "baaac", "b", "c");
        }
        Checks.edits("s/\\**/x/", "xa\nxa\nxa\n", "a", "*a", "***a");
        String twenty = "aaaaaaaaaaaaaaaaaaaa";
        Checks.edits("s/.*/&&&/;s/a*/x/", "x\n", twenty);
        StreamForge none = Checks.edits("s/.*/&&&/;s/b*$//", twenty.repeat(3) + "\n", twenty);
        Checks.answers("replacements", 2, () -> none.ran(4));
    }

    private static void atMostTwoStars() {
        Checks.parses("s/a*b*c/x/;s/\\(a*\\)\\(.*\\)/x/", 2);
        Checks.parses("/a*b*/,/[ab]*\\.*/s/c*d*/x/", 1);
        Checks.parses("s/a*b*\\*[*]/x/", 1);
        Checks.isNone("s/a*b*c*/x/", 7);
        Checks.isNone("s/a*b*.*/x/", 7);
        Checks.isNone("s/a*b*[*]*/x/", 9);
        Checks.isNone("s/a*b*\\**/x/", 8);
        Checks.isNone("s/\\(a*\\)\\(b*\\)\\(c*\\)/x/", 17);
        Checks.isNone("/a*b*/,/a*b*c*/p", 13);
        Checks.isNone("s/a**/x/", 4);
        Checks.isNone("s/ab*cd**/x/", 8);
    }

    private static void groups() {
        Checks.edits("s/\\(a\\)\\(b\\)\\(c\\)/\\3\\2\\1/", "cbad\n", "abcd");
        Checks.edits("s/\\(\\)a\\(\\)/<\\1\\2>/", "<>b\n", "ab");
        Checks.isNone("s/\\(\\(a\\)\\)/x/", 4);
        Checks.isNone("s/\\(a\\(b\\)\\)/x/", 5);
        Checks.isNone("s/\\)/x/", 2);
        Checks.isNone("s/\\(a\\)\\)/x/", 7);
        Checks.isNone("s/\\(a\\)*/x/", 7);
        Checks.isNone("s/\\(\\)*/x/", 6);
        Checks.isNone("s/\\(*a\\)/x/", 4);
        Checks.isNone("s/a\\(*a\\)/x/", 5);
        Checks.isNone("s/\\(/x/", 4);
        Checks.isNone("s/\\(a$/x/", 6);
        Checks.isNone("s/\\(a", 5);
    }

    private static void atMostThreeGroups() {
        String three = "\\(a\\)\\(b\\)\\(c\\)";
        Checks.parses("s/" + three + "/x/", 1);
        Checks.parses("/" + three + "/,/" + three + "/s/" + three + "/x/", 1);
        Checks.isNone("s/" + three + "\\(d\\)/x/", 17);
        Checks.isNone("s/" + three + "\\(\\)/x/", 17);
        Checks.isNone("/" + three + "/,/" + three + "d\\(e\\)/p", 35);
    }

    private static void sameAgain() {
        Checks.edits("s/\\(.\\)\\1/x/", "axc\n", "abbc");
        Checks.edits("s/\\(.\\)\\(.\\)\\2\\1/x/", "axc\n", "abddbc");
        Checks.edits("s/\\(.\\)\\(.\\)\\(.\\)\\3/x/", "ax\n", "abcdd");
        Checks.edits("s/\\(.\\)\\(\\1b\\)/<\\2>/", "a<cb>\n", "accb");
        Checks.isNone("s/\\1\\(a\\)/x/", 2);
        Checks.isNone("s/\\(a\\1\\)/x/", 5);
        Checks.isNone("s/\\(a\\)\\2/x/", 7);
        Checks.isNone("s/\\(a\\)\\(\\2\\)/x/", 9);
        Checks.isNone("s/\\(a\\)\\2\\(b\\)/x/", 7);
        Checks.isNone("s/\\(a\\)\\(b\\)\\3/x/", 12);
        String three = "\\(a\\)\\(b\\)\\(c\\)";
        Checks.parses("s/" + three + "\\1\\2\\3/x/", 1);
        Checks.isNone("s/" + three + "\\4/x/", 17);
        Checks.isNone("s/" + three + "\\0/x/", 17);
        Checks.isNone("s/\\(a\\)\\1*/x/", 9);
        Checks.isNone("s/\\(a\\)b\\1*/x/", 10);
        // the groups are those of this pattern
        Checks.isNone("/\\(a\\)/s/\\1/x/", 9);
    }

    private static void atMostFourteenItems() {
        for (String item : new String[] {"b", ".", "\\.", "[b]", "[^a-y]", "b*", "$", "^"}) {
            String behind = item.equals("$") ? "*" : "";
            Checks.parses("s/" + THIRTEEN + item + behind + "/x/", 1);
            Checks.isNone("s/" + THIRTEEN + "a" + item + "b/x/", 16);
            Checks.isNone("/" + THIRTEEN + item + "b" + item + "/p", 14 + item.length());
            Checks.isNone("s/\\(" + THIRTEEN + "a" + item + "\\)/x/", 18);
        }
        Checks.parses("s/\\(a\\)aaaaaaaaaaaa\\1/x/", 1);
        Checks.isNone("s/\\(a\\)" + THIRTEEN + "\\1/x/", 20);
        Checks.isNone("s/\\(a\\)aaaaaaaaaaaa\\1\\1/x/", 21);
        Checks.edits("s/aaaaaaaaaaaaaa/x/", "xa\n" + THIRTEEN + "\n", THIRTEEN + "aa", THIRTEEN);
    }

    private static void whatCountsAsItem() {
        Checks.parses("s/^" + THIRTEEN + "a$/x/", 1);
        Checks.parses("s/\\(" + THIRTEEN + "a\\)/x/", 1);
        Checks.parses("s/\\(aaaa\\)\\(aaaaa\\)\\(aaaaa\\)/x/", 1);
        Checks.parses("s/\\(\\)\\(\\)\\(\\)" + THIRTEEN + "a/x/", 1);
        Checks.parses("s/" + THIRTEEN + "a\\(\\)/x/", 1);
        Checks.parses("s/a*a*aaaaaaaaaaaa/x/", 1);
        Checks.isNone("s/a*a*aaaaaaaaaaaaa/x/", 18);
        Checks.isNone("s/\\(aaaa\\)\\(aaaaa\\)\\(aaaaaa\\)/x/", 26);
        Checks.isNone("s/^" + THIRTEEN + "aa$/x/", 17);
        // each pattern has fourteen of its own
        String fourteen = "/" + THIRTEEN + "a/";
        Checks.parses(fourteen + "," + fourteen + "s" + fourteen + "x/", 1);
    }

    private static void emptyPatterns() {
        Checks.edits("//s//x/", "xab\nx\n", "ab", "");
        Checks.edits("//,//d", "", "a", "b", "c");
        Checks.parses("s/^/x/;s/$/x/;s/^$/x/;s/\\(\\)/x/", 4);
    }
}
