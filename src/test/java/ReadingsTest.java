/**
 * Where the document leaves room: how it is read here. A test that stands here may have to change
 * when the document says more; those in the other files may not.
 */
public final class ReadingsTest {
    public static void main(String[] args) {
        setsAreNotEmpty();
        exchangesMayBeEmpty();
        groupsOfReplacementsAreThere();
        backslashesAtTheEnd();
        bangsWithoutAddress();
        rangesThatBeginOnTheLastLine();
        whatTheSpaceIsAtTheEnd();
        appendedTextsComeOneByOne();
        appendedIsWhatHasNotComeOut();
        theFirstNamedExceptionIsThrown();
        linesFarBeyond();
        Checks.end();
    }

    private static void setsAreNotEmpty() {
        Checks.isNone("s/[]/x/", 3);
        Checks.isNone("s/[]a]/x/", 3);
        Checks.isNone("s/[^]/x/", 4);
        Checks.isNone("s/[^]a]/x/", 4);
    }

    private static void exchangesMayBeEmpty() {
        Checks.edits("y///", "a\n", "a");
        Checks.isNone("y//a/", 3);
    }

    private static void groupsOfReplacementsAreThere() {
        Checks.isNone("s/a/\\1/", 4);
        Checks.isNone("s/\\(a\\)/\\2/", 8);
        Checks.isNone("s/\\(a\\)\\(b\\)/\\1\\2\\3/", 17);
    }

    /** Where nothing can stand behind the last \, it is the \ with which no script goes on. */
    private static void backslashesAtTheEnd() {
        String fourteen = "aaaaaaaaaaaaaa";
        Checks.isNone("/" + fourteen + "\\", 16);
        Checks.isNone("/\\(\\)\\(\\)\\(" + fourteen + "\\", 26);
        Checks.isNone("/\\(\\)\\(\\)\\(\\)aaaaaaaaaaaaa\\", 27);
        Checks.isNone("/\\(\\)\\(\\)\\(\\)" + fourteen + "\\", 27);
    }

    private static void bangsWithoutAddress() {
        Checks.edits("!d", "a\n", "a");
        Checks.edits("! {d}", "a\n", "a");
    }

    /** The second address is looked at from the next time on, and there is none. */
    private static void rangesThatBeginOnTheLastLine() {
        Checks.edits("$,$c x", "a\n", "a", "b");
        Checks.edits("/b/,/b/c x", "a\n", "a", "b");
    }

    private static void whatTheSpaceIsAtTheEnd() {
        Checks.equal("d lets the space be", Checks.space(Checks.edits("$d", "a\n", "a", "bc")), "bc");
        Checks.equal("D without a 10", Checks.space(Checks.edits("D", "", "ab")), "ab");
        Checks.equal("c in a range", Checks.space(Checks.edits("1,9c x", "", "ab")), "");
        String line = "abcdefghijklmnopqrstuvwx";
        StreamForge changed = Checks.breaks("p;$!b;p;c x", Checks.NO_ROOM, (line + "\n").repeat(24),
                line, line, line, line, line, line, line, line, line, line, line, line);
        Checks.equal("c without room for its text", Checks.space(changed), "");
    }

    private static void appendedTextsComeOneByOne() {
        String line = "abcdefghijklmnopqrstuvwx";
        String script = "p;$!b;a 12345678901234567890\na 123456789012345678901234567890";
        Checks.breaks(script, Checks.NO_ROOM, (line + "\n").repeat(22) + "12345678901234567890\n",
                line, line, line, line, line, line, line, line, line, line, line);
    }

    /** n and N let out what was appended, so that there is all the room again. */
    private static void appendedIsWhatHasNotComeOut() {
        String text = "0123456789".repeat(10);
        Checks.edits("a " + text + "\nn;a " + text, "a\n" + text + "\nb\n" + text + "\n", "a", "b");
        String script = "a " + text + "\nn;a " + text.substring(1) + "\na ";
        Checks.edits(script, "a\n" + text + "\nb\n" + text.substring(1) + "\n\n", "a", "b");
        Checks.edits("a " + text + "\nN;a " + text, text + "\na\nb\n" + text + "\n", "a", "b");
    }

    /** Of two that would fit; but that nothing is parsed comes before what is not there then. */
    private static void theFirstNamedExceptionIsThrown() {
        StreamForge full = Checks.written(";".repeat(240), "a", "b", "c", "d", "e", "f", "g", "h", "i", "j", "k", "l");
        Checks.refuses("a wrong byte to a full script", Checks.WRONG, () -> full.script(9));
        Checks.refuses("a wrong 13th line", Checks.WRONG, () -> full.line(0, 10));
        StreamForge empty = new StreamForge();
        Checks.refuses("a wrong byte without a line", Checks.WRONG, () -> empty.more(10));
        Checks.refuses("nothing parsed, no line", Checks.NOT_NOW, () -> empty.match(0, 5, 0));
        Checks.refuses("nothing parsed, wrong what", Checks.WRONG, () -> empty.match(0, 0, 8));
        StreamForge forge = Checks.parsed("p;s/b/x/", "ab");
        Checks.refuses("no s, no line", Checks.WRONG, () -> forge.match(0, 1, 0));
        Checks.refuses("no command, no line, wrong what", Checks.WRONG, () -> forge.match(9, 9, 8));
    }

    private static void linesFarBeyond() {
        StreamForge forge = Checks.written("", "ab");
        Checks.answers("line 12", 0, () -> forge.count(22));
        Checks.answers("a line far beyond", 0, () -> forge.count(Integer.MAX_VALUE));
    }
}
