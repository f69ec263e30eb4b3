/**
 * Scripts that are well known to those who use stream editors, with what GNU sed tells for them.
 * A 10 has no character of its own in a pattern here: [^ -~] takes it, since it takes nothing else.
 */
public final class KnownScriptsTest {
    public static void main(String[] args) {
        spacing();
        numbering();
        choosing();
        emptyLines();
        turning();
        joining();
        repeated();
        within();
        Checks.end();
    }

    private static void spacing() {
        Checks.edits("G", "a\n\nb\n\n", "a", "b");
        Checks.edits("n;d", "a\nb\n", "a", "", "b", "");
        Checks.edits("/b/{x;p;x}", "a\n\nb\nc\n", "a", "b", "c");
        Checks.edits("/b/{x;p;x;G}", "a\n\nb\n\nc\n", "a", "b", "c");
        Checks.edits("n;n;G", "a\nb\nc\n\nd\n", "a", "b", "c", "d");
    }

    private static void numbering() {
        Checks.edits("=", "1\na\n2\nb\n", "a", "b");
        Checks.edits("$=;d", "3\n", "a", "b", "c");
        Checks.edits("/b/=;d", "2\n3\n", "a", "ab", "b");
    }

    private static void choosing() {
        Checks.edits("2q", "a\nb\n", "a", "b", "c");
        Checks.edits("$!d", "c\n", "a", "b", "c");
        Checks.edits("$!N;$!D", "c\nd\n", "a", "b", "c", "d");
        Checks.edits("$!{h;d};x", "c\n", "a", "b", "c", "d");
        Checks.edits("2,3!d", "b\nc\n", "a", "b", "c", "d");
        Checks.edits("/begin/,/end/!d", "begin\nx\nend\nbegin\n", "a", "begin", "x", "end", "b", "begin");
        Checks.edits("/begin/,/end/{/begin/b\n/end/b\nd}", "begin\nend\n", "begin", "x", "y", "end");
        Checks.edits("/b/{g;1!p};h;d", "a\nc\n", "a", "b", "c", "b");
        Checks.edits("/b/{n;p};d", "b\nc\n", "a", "b", "c", "d");
        Checks.edits("$!N;P;D", "a\nb\nc\n", "a", "b", "c");
    }

    private static void emptyLines() {
        Checks.edits("/^$/d", "a\nb\n", "", "a", "", "", "b");
        Checks.edits("/./,/^$/!d", "a\n\nb\n\n", "", "a", "", "", "b", "", "");
        Checks.edits("/./,$!d", "a\n\nb\n", "", "", "a", "", "b");
        Checks.edits(":a;/^[^ -~]*$/{$d;N;ba}", "\na\n\n\nb\n", "", "a", "", "", "b", "", "");
    }

    private static void turning() {
        Checks.edits("1!G;h;$!d", "c\nb\na\n", "a", "b", "c");
        Checks.edits("/[^ -~]/!G;s/\\(.\\)\\(.*[^ -~]\\)/&\\2\\1/;/\\(.\\)\\(.*[^ -~]\\)/D;s/.//",
                "cba\n\nyx\n", "abc", "", "xy");
        Checks.edits("s/\\([a-z]*\\) \\([a-z]*\\)/\\2 \\1/", "world hello\none\n", "hello world", "one");
        Checks.edits("$!{N;s/\\(.*\\)[^ -~]\\(.*\\)/\\2\\n\\1/}", "b\na\nd\nc\n", "a", "b", "c", "d");
    }

    private static void joining() {
        Checks.edits("$!N;s/[^ -~]/ /", "a b\nc d\n", "a", "b", "c", "d");
        Checks.edits(":a;/-$/{N;s/-[^ -~]//;ba}", "abc\nd\n", "a-", "b-", "c", "d");
        Checks.edits(":a;$!N;s/[^ -~]=/ /;ta;P;D", "a b c\nd\n", "a", "=b", "=c", "d");
        Checks.edits(":a;$!{N;ba};s/[^ -~]/+/g", "1+2+3\n", "1", "2", "3");
        Checks.edits("H;$!d;x;s/[^ -~]/,/g;s/,//", "a,b,c\n", "a", "b", "c");
    }

    private static void repeated() {
        Checks.edits("$!N;/^\\(.*\\)[^ -~]\\1$/!P;D", "a\nb\na\n", "a", "a", "b", "b", "b", "a");
        Checks.edits("$!N;s/^\\(.*\\)[^ -~]\\1$/\\1/;t\nD", "a\nb\n", "a", "a", "b", "b");
        Checks.edits("s/\\([a-z][a-z]*\\) \\1/\\1/g", "the cat sat\n", "the the cat sat");
        Checks.edits(":a;s/\\([^ ]\\)\\1/\\1/;ta", "abcb\n", "aabbbcb");
    }

    private static void within() {
        Checks.edits("s/^ *//;s/ *$//", "a b\n\n", "  a b ", "   ");
        Checks.edits(":a;s/\\(.*[0-9]\\)\\([0-9][0-9][0-9]\\)/\\1,\\2/;ta", "12\n1,234\n1,234,567\n",
                "12", "1234", "1234567");
        Checks.edits("s/\\(.*\\)foo\\(.*foo\\)/\\1bar\\2/", "foo bar foo\nfoo\n", "foo foo foo", "foo");
        Checks.edits("s/\\(.*\\)foo/\\1bar/", "foo foo bar\n", "foo foo foo");
        Checks.edits("s/foo/bar/2", "foo bar foo\n", "foo foo foo");
        Checks.edits("s/[^,]*,//2", "a,c,d\n", "a,b,c,d");
        Checks.edits("s/./&&/g", "aabb\n", "ab");
        Checks.edits(":a;s/^.$/ &/;s/^..$/ &/;s/^...$/ &/;ta", "   a\n  bc\nabcd\n", "a", "bc", "abcd");
        Checks.edits("s/a/1/;t\ns/b/2/", "1b\n2c\nd\n", "ab", "bc", "d");
        Checks.edits("y/abcdefghijklmnopqrstuvwxyz/nopqrstuvwxyzabcdefghijklm/", "uryyb\n", "hello");
        Checks.edits("/^>/!{i <p>\na </p>\n}", "<p>\na\n</p>\n>b\n", "a", ">b");
    }
}
