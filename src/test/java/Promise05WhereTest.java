/** Promise 5: the first character with which no script goes on so. */
public final class Promise05WhereTest {
    private static final String FOURTEEN = "aaaaaaaaaaaaaa";

    public static void main(String[] args) {
        theFirstWrongCharacter();
        missingEnds();
        backslashes();
        thirdStars();
        fifteenthItems();
        dollarsAsItems();
        fortyFirstCommands();
        whatWasThere();
        missingLabels();
        theFirstOfSeveral();
        onlyTheLatestParse();
        Checks.end();
    }

    private static void theFirstWrongCharacter() {
        Checks.isNone("k", 0);
        Checks.isNone("  k", 2);
        Checks.isNone("p k", 2);
        Checks.isNone("pk", 1);
        Checks.isNone("p;\n1,2!  {k}", 10);
        Checks.isNone("s,a,b,", 1);
        Checks.isNone("s/a/b/x", 6);
        Checks.isNone("y/ab/x/", 6);
        Checks.isNone("y/ab/xyz/", 7);
        Checks.isNone("/[b-a]/d", 4);
        Checks.isNone("{p}}", 3);
        Checks.isNone("{{{{{", 4);
        Checks.isNone("1:a", 1);
        Checks.isNone("100p", 2);
    }

    private static void missingEnds() {
        String[] unfinished = {
            "1", "12", "1,", "1,2", "1!", "$ ", "/", "/a", "/a\\", "/a*", "/[", "/[^", "/[a", "/[a-", "/[a-b", "/\\(",
            "/\\(a\\", "/\\(a\\)", "/a$", "/^", "/a/", "s", "s/", "s//", "s//\\", "s//&", "s/a/b", "y", "y/", "y/a",
            "y/a/", "y/a/b", ":", "{", "{p", "{p;", "{p\n", "a", "1,/b", "{a x}", "{{p}", "!", "! "
        };
        for (String script : unfinished) {
            Checks.isNone(script, script.length());
            Checks.isNone("p;" + script, script.length() + 2);
        }
        Checks.isNone(";".repeat(239) + "{", 240);
        Checks.isNone(" ".repeat(238) + "s/", 240);
    }

    private static void backslashes() {
        Checks.isNone("/\\n/p", 1);
        Checks.isNone("/\\]/p", 1);
        Checks.isNone("/\\\n/p", 1);
        Checks.isNone("/a\\0/p", 2);
        Checks.isNone("/a\\4/p", 2);
        Checks.isNone("/a\\1/p", 2);
        Checks.isNone("/a\\)/p", 2);
        Checks.isNone("s/\\(a\\|b\\)/x/", 5);
        Checks.isNone("s/\\(a\\(b\\)\\)/x/", 5);
        Checks.isNone("s/\\(\\)\\(\\)\\(\\)\\(\\)/x/", 14);
        Checks.isNone("s/a/x\\\n/", 5);
        Checks.isNone("s/a/x\\(/", 5);
        Checks.isNone("s/a/x\\0/", 5);
        Checks.isNone("y/a\\/bb/", 3);
        Checks.isNone("y/ab/x\\/", 6);
        Checks.isNone("\\p", 0);
        Checks.isNone("p\\", 1);
    }

    private static void thirdStars() {
        Checks.parses("/a*b*/p", 1);
        Checks.isNone("/a*b*c*/p", 6);
        Checks.isNone("/a*b*[a-c]*/p", 10);
        Checks.isNone("/a*b*\\.*/p", 7);
        Checks.isNone("/a**/p", 3);
    }

    private static void fifteenthItems() {
        Checks.parses("/" + FOURTEEN + "/p", 1);
        for (String item : new String[] {"b", ".", "[b]", "[^b-c]*", "\\.", "\\\\", "^"}) {
            Checks.isNone("/" + FOURTEEN + item + "/p", 15);
            Checks.isNone("s/\\(" + FOURTEEN + "\\)" + item + "/x/", 20);
        }
        Checks.isNone("/\\(" + FOURTEEN + "\\)\\1/p", 19);
        Checks.parses("/\\(a\\)aaaaaaaaaaaa\\1/p", 1);
        Checks.isNone("/\\(a\\)\\1aaaaaaaaaaaaa/p", 20);
        Checks.isNone("/" + FOURTEEN + "[", 15);
    }

    /** Only what stands behind a $ tells whether it is an item. */
    private static void dollarsAsItems() {
        Checks.parses("/" + FOURTEEN + "$/p", 1);
        Checks.isNone("/" + FOURTEEN + "$", 16);
        Checks.isNone("/" + FOURTEEN + "$b/p", 15);
        Checks.isNone("/" + FOURTEEN + "$$/p", 15);
        Checks.isNone("/" + FOURTEEN + "$*/p", 15);
        Checks.isNone("/\\(" + FOURTEEN + "$\\)/p", 17);
    }

    private static void fortyFirstCommands() {
        String forty = "p;".repeat(39) + "p";
        Checks.parses(forty, 40);
        Checks.isNone(forty + ";p", 80);
        Checks.isNone(forty + ";1,2p", 80);
        Checks.isNone(forty + ";/a/!p", 80);
        Checks.isNone(forty + "\n  s/a/b/", 82);
        Checks.isNone("{" + forty + "}", 79);
        Checks.isNone("{" + "p;".repeat(39) + "}{", 80);
    }

    private static void whatWasThere() {
        Checks.isNone(":a;:a", 4);
        Checks.isNone(":a;:b;:a", 7);
        Checks.isNone(":a;{:a}", 5);
        Checks.isNone("s/a/b/gg", 7);
        Checks.isNone("s/a/b/pgp", 8);
        Checks.isNone("s/a/b/1g2", 8);
        Checks.isNone("y/aa/xx/", 3);
        Checks.isNone("y/abcb/xxxx/", 5);
    }

    private static void missingLabels() {
        Checks.parses("bz;:z", 2);
        Checks.isNone("bz", 0);
        Checks.isNone("p;tz;bz", 2);
        Checks.isNone(":a;ba;tb;tc", 6);
        Checks.isNone("1,/a/!  bz", 8);
        Checks.isNone("{{bz}}", 2);
        Checks.isNone("b;t;tz", 4);
        // they are looked at behind all else
        Checks.isNone("bz;{", 4);
        Checks.isNone("bz;k", 3);
        Checks.isNone("bz;s/a", 6);
        Checks.isNone("bz;:a;:a", 7);
        Checks.isNone("bz;" + "p;".repeat(40), 81);
    }

    private static void theFirstOfSeveral() {
        Checks.isNone("k;k", 0);
        Checks.isNone("s/a*b*c*/\\x/gg", 7);
        Checks.isNone("y/aa/x/", 3);
        Checks.isNone("p;1k;}", 3);
    }

    private static void onlyTheLatestParse() {
        StreamForge forge = new StreamForge();
        Checks.answers("where before a parse", -2, forge::where);
        Checks.write(forge, "p;k");
        Checks.answers("where before a parse", -2, forge::where);
        Checks.refuses("parse", Checks.WRONG, forge::parse);
        Checks.answers("where", 2, forge::where);
        Checks.answers("where again", 2, forge::where);
        Checks.write(forge, "k");
        Checks.answers("where after more script", 2, forge::where);
        forge.clear(0);
        Checks.answers("where after clear", 2, forge::where);
        Checks.answers("parse", 0, forge::parse);
        Checks.answers("where after a script", -2, forge::where);
        Checks.write(forge, "k");
        Checks.refuses("parse", Checks.WRONG, forge::parse);
        Checks.answers("where at the first character", 0, forge::where);
        Checks.answers("run", 0, forge::run);
        Checks.answers("where after a run", 0, forge::where);
    }
}
