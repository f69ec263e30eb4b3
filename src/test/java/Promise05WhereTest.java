/** Promise 5: the first character with which no script goes on so. */
public final class Promise05WhereTest {
    public static void main(String[] args) {
        ends();
        backslashes();
        limits();
        labels();
        onlyTheLatestParse();
        Checks.end();
    }

    private static void ends() {
        String[] unfinished = {
            "1", "1,", "1!", "$ ", "/", "/a", "/a\\", "/[", "/[^", "/[a-", "/\\(", "/a$", "/^", "s", "s/", "s//",
            "s//\\", "s/a/b", "y", "y/", "y/a", "y/a/", "y/a/b", ":", "{", "{p;", "a", "1,/b", "{a x}"
        };
        for (String script : unfinished) {
            Checks.isNone(script, script.length());
        }
        Checks.isNone(";".repeat(239) + "{", 240);
    }

    private static void backslashes() {
        Checks.isNone("/\\n/p", 1);
        Checks.isNone("/\\]/p", 1);
        Checks.isNone("/\\\n/p", 1);
        Checks.isNone("/a\\0/p", 2);
        Checks.isNone("/a\\4/p", 2);
        Checks.isNone("s/\\(a\\|b\\)/x/", 5);
        Checks.isNone("s/a/x\\\n/", 5);
        Checks.isNone("s/a/x\\(/", 5);
        Checks.isNone("\\p", 0);
    }

    private static void limits() {
        String fourteen = "aaaaaaaaaaaaaa";
        Checks.parses("/" + fourteen + "$/p", 1);
        Checks.isNone("/" + fourteen + "$", 16);
        Checks.isNone("/" + fourteen + "$b/p", 15);
        Checks.isNone("/" + fourteen + "[a]/p", 15);
        Checks.isNone("/" + fourteen + "\\./p", 15);
        Checks.isNone("/" + fourteen + "./p", 15);
        Checks.isNone("/\\(" + fourteen + "\\)\\1/p", 19);
        Checks.isNone("/\\(" + fourteen + "$\\)/p", 17);
        Checks.isNone("/" + fourteen + "\\", 16);
        Checks.isNone("/\\(\\)\\(\\)\\(\\)" + fourteen + "\\", 27);
        Checks.isNone("/\\(\\)\\(\\)\\(" + fourteen + "\\", 26);
        Checks.parses("/\\(a\\)aaaaaaaaaaaa\\1/p", 1);
        Checks.isNone("/\\(a\\)\\1aaaaaaaaaaaaa/p", 20);
        Checks.parses("/aaaaaaaaaaaaa*a*/p", 1);
        Checks.isNone("/a*b*[a-c]*/p", 10);
        String forty = "p;".repeat(39) + "p";
        Checks.isNone(forty + ";1,2p", 80);
        Checks.isNone(forty + ";k", 80);
        Checks.isNone("{" + forty, 79);
        Checks.parses("{" + "p;".repeat(39) + "}", 40);
        Checks.isNone("y/abcb/xxxx/", 5);
    }

    private static void labels() {
        Checks.isNone("p;tz;bz", 2);
        Checks.isNone("1,/a/!  bz", 8);
        Checks.isNone("bz;{", 4);
        Checks.isNone("bz;p k", 5);
        Checks.isNone(":a;:b;:a", 7);
        Checks.parses("bz;:z", 2);
    }

    private static void onlyTheLatestParse() {
        StreamForge forge = new StreamForge();
        Checks.answers("where before a parse", -2, forge::where);
        Checks.write(forge, "p;k");
        Checks.refuses("parse", IllegalArgumentException.class, forge::parse);
        Checks.answers("where", 2, forge::where);
        forge.clear(0);
        Checks.answers("where after clear", 2, forge::where);
        Checks.answers("parse", 0, forge::parse);
        Checks.answers("where after a script", -2, forge::where);
    }
}
