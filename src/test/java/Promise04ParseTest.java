/** Promise 4: what is a script, and how many commands it has. */
public final class Promise04ParseTest {
    public static void main(String[] args) {
        separators();
        addresses();
        blocksAndLabels();
        patterns();
        sets();
        substitutionsAndExchanges();
        texts();
        theOneParsedStays();
        Checks.end();
    }

    private static void separators() {
        Checks.parses("", 0);
        Checks.parses(" ;\n; ", 0);
        Checks.parses("p", 1);
        Checks.parses(" p;d D\nP;;n", 5);
        Checks.parses("d D p P n N h H g G x = q", 13);
        Checks.parses("b b", 2);
        Checks.isNone("pp", 1);
        Checks.isNone("p,", 1);
        Checks.isNone("w", 0);
        Checks.parses("p;".repeat(40), 40);
        Checks.isNone("p;".repeat(40) + "p", 80);
    }

    private static void addresses() {
        Checks.parses("1p;99p;$p;/a/p;//p", 5);
        Checks.parses("1,2p;$,1p;/a/,/b/p;1,$p", 4);
        Checks.parses("1  !  p;1!p;1 p;!p;! p", 5);
        Checks.parses("1{p};1,2!{p}", 4);
        Checks.isNone("0p", 0);
        Checks.isNone("01p", 0);
        Checks.isNone("100p", 2);
        Checks.isNone("1 ,2p", 2);
        Checks.isNone("1, 2p", 2);
        Checks.isNone("1,p", 2);
        Checks.isNone("1,0p", 2);
        Checks.isNone("1,2,3p", 3);
        Checks.isNone("1!!p", 2);
        Checks.isNone("1\np", 1);
        Checks.isNone("1;p", 1);
        Checks.isNone("1!", 2);
    }

    private static void blocksAndLabels() {
        Checks.parses("{}", 1);
        Checks.parses("{p}p", 3);
        Checks.parses("{{{{p}}}}{p}", 7);
        Checks.parses("{p;};{;p\n}", 4);
        Checks.isNone("{{{{{", 4);
        Checks.isNone("{{{{1{", 5);
        Checks.isNone("}", 0);
        Checks.isNone("p}", 1);
        Checks.isNone("{p}}", 3);
        Checks.isNone("{p", 2);
        Checks.isNone("{1}", 2);
        Checks.parses(":a;ba;tb;{:b}", 5);
        Checks.parses("b;t;{b};{t}", 6);
        Checks.isNone(":", 1);
        Checks.isNone(": a", 1);
        Checks.isNone(":A", 1);
        Checks.isNone(":ab", 2);
        Checks.isNone("1:a", 1);
        Checks.isNone("!:a", 1);
        Checks.isNone(":a;:a", 4);
        Checks.isNone("bab", 2);
        Checks.isNone("p;1!bx;by", 4);
    }

    private static void patterns() {
        Checks.parses("s/^/x/;s/$/x/;s/^$/x/;s/^^a$$/x/", 4);
        Checks.parses("s/a*b*/x/;s/.*\\.*/x/", 2);
        Checks.parses("s/\\/\\\\\\[\\*\\.\\^\\$/x/", 1);
        Checks.parses("s/]{}()+?|&-/x/", 1);
        Checks.parses("s/\\(^a$\\)\\1\\(\\)\\2\\(b*\\)\\3/x/", 1);
        Checks.parses("s/$*a^*/x/", 1);
        Checks.isNone("s/*/x/", 2);
        Checks.isNone("/a/,/*b/p", 5);
        Checks.isNone("s/^*/x/", 3);
        Checks.isNone("s/a**/x/", 4);
        Checks.isNone("s/a*b*c*/x/", 7);
        Checks.isNone("s/\\(a\\)*/x/", 7);
        Checks.isNone("s/\\(*a\\)/x/", 4);
        Checks.isNone("s/\\(a\\)\\1*/x/", 9);
        Checks.isNone("s/a\\(*b\\)/x/", 5);
        Checks.isNone("s/\\(a\\)b\\1*/x/", 10);
        Checks.isNone("s/\\(a\\1\\)/x/", 5);
        Checks.isNone("s/\\(a\\)\\2/x/", 7);
        Checks.isNone("s/\\(a\\(b\\)\\)/x/", 5);
        Checks.isNone("s/\\(\\)\\(\\)\\(\\)\\(\\)/x/", 14);
        Checks.isNone("s/a\\)/x/", 3);
        Checks.isNone("s/\\(a/x/", 5);
        Checks.isNone("s/\\(a$/x/", 6);
        Checks.isNone("s/a\nb/x/", 3);
        Checks.parses("s/aaaaaaaaaaaaaa/x/", 1);
        Checks.parses("s/^aaaaaaa\\(aaaaaaa\\)\\(\\)$/x/", 1);
        Checks.isNone("s/aaaaaaaaaaaaaaa/x/", 16);
    }

    private static void sets() {
        Checks.parses("s/[a][^a][^^][a^][a-z][a-][-a][--a][---]/x/", 1);
        Checks.parses("s/[\\*.$[(][a-c-e]*/x/", 1);
        Checks.isNone("s/[]a]/x/", 3);
        Checks.isNone("s/[^]a]/x/", 4);
        Checks.isNone("s/[a/]/x/", 4);
        Checks.isNone("s/[a\n]/x/", 4);
        Checks.isNone("s/[b-a]/x/", 5);
        Checks.isNone("s/[a--]/x/", 5);
        Checks.isNone("s/[a-/]/x/", 5);
        Checks.isNone("s/[a", 4);
        Checks.isNone("s/[a-", 5);
    }

    private static void substitutionsAndExchanges() {
        Checks.parses("s/a/b/gp9;s/a/b/1pg;s///", 3);
        Checks.parses("s/\\(a\\)/\\1&\\&\\/\\\\\\n/", 1);
        Checks.isNone("s/a/b/0", 6);
        Checks.isNone("s/a/b/12", 7);
        Checks.isNone("s/a/b/gg", 7);
        Checks.isNone("s/a/b/pgp", 8);
        Checks.isNone("s/a/b/x", 6);
        Checks.isNone("s,a,b,", 1);
        Checks.isNone("s/a/\\1/", 4);
        Checks.isNone("s/\\(a\\)/\\2/", 8);
        Checks.isNone("s/a/\\x/", 4);
        Checks.isNone("s/a/b\nc/", 5);
        Checks.parses("y/ab/ba/;y/a/ /;y/abc/xxx/", 3);
        Checks.isNone("y,a,b,", 1);
        Checks.isNone("y/aba/xyz/", 4);
        Checks.isNone("y/ab/x/", 6);
        Checks.isNone("y/ab/xyz/", 7);
        Checks.isNone("y/a\\/bb/", 3);
        Checks.isNone("y/ab/x\\/", 6);
        Checks.isNone("y/a\nb/xyz/", 3);
        Checks.isNone("y/a/b/g", 6);
    }

    private static void texts() {
        Checks.parses("a x;p}", 1);
        Checks.parses("a \ni  b\nc c\np", 4);
        Checks.parses("{a x\n}", 2);
        Checks.isNone("{a x}", 5);
        Checks.isNone("ax", 1);
        Checks.isNone("a", 1);
        Checks.isNone("i\n", 1);
        Checks.isNone("c;", 1);
    }

    private static void theOneParsedStays() {
        StreamForge forge = Checks.parsed("s/a/b/", "a");
        Checks.write(forge, "k");
        Checks.refuses("parse of a spoilt script", IllegalArgumentException.class, forge::parse);
        Checks.answers("the commands stay", 1, () -> forge.count(2));
        Checks.answers("the script stays", 7, () -> forge.count(0));
        Checks.answers("run of the one that stays", 2, forge::run);
        Checks.equal("its output", Checks.output(forge), "b\n");
        forge.clear(0);
        Checks.answers("parse of an empty script", 0, forge::parse);
        Checks.answers("its run", 2, forge::run);
        Checks.equal("its output", Checks.output(forge), "a\n");
    }
}
