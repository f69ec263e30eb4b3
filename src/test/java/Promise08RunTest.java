import java.util.Arrays;

/** Promise 8: what a run does, command by command, and what ends it. */
public final class Promise08RunTest {
    private static final Class<IndexOutOfBoundsException> NO_ROOM = IndexOutOfBoundsException.class;

    public static void main(String[] args) {
        Checks.refuses("run of nothing", IllegalStateException.class, () -> new StreamForge().run());
        plainRuns();
        addresses();
        ranges();
        blocksAndBranches();
        substitutions();
        exchangesAndTexts();
        changes();
        deletions();
        nextLines();
        holds();
        roomOfSpaceAndHold();
        roomOfOutput();
        roomOfAppended();
        tooManyCommands();
        runsAreNew();
        Checks.end();
    }

    private static void plainRuns() {
        Checks.edits("", "");
        Checks.edits("", "a\n\nb\n", "a", "", "b");
        Checks.edits("p", "a\na\n", "a");
        Checks.edits("=", "1\na\n2\nb\n", "a", "b");
        String[] twelve = new String[12];
        Arrays.fill(twelve, "");
        Checks.edits("$=;d", "12\n", twelve);
        Checks.edits("10=;d", "10\n", twelve);
        Checks.edits("9,11!d;=;d", "9\n10\n11\n", twelve);
        Checks.edits("99,1p;12!d;=;d", "12\n", twelve);
        Checks.edits("2q;p", "a\na\nb\n", "a", "b", "c");
    }

    private static void addresses() {
        Checks.edits("2d", "a\nc\n", "a", "b", "c");
        Checks.edits("$d", "a\nb\n", "a", "b", "c");
        Checks.edits("/b/d", "a\nc\n", "a", "b", "c");
        Checks.edits("2!d", "b\n", "a", "b", "c");
        Checks.edits("/^b$/! d", "b\n", "a", "b", "bb");
        Checks.edits("!d", "a\n", "a");
        Checks.edits("//d", "", "a", "");
        Checks.edits("N;2s/$/!/", "a\nb!\nc\n", "a", "b", "c");
    }

    private static void ranges() {
        Checks.edits("2,3d", "a\nd\n", "a", "b", "c", "d");
        Checks.edits("2,3!d", "b\nc\n", "a", "b", "c", "d");
        Checks.edits("3,2d", "a\nb\nd\n", "a", "b", "c", "d");
        Checks.edits("2,2d", "a\nc\nd\n", "a", "b", "c", "d");
        Checks.edits("/b/,/b/d", "a\nd\n", "a", "b", "c", "b", "d");
        Checks.edits("/b/,$d", "a\n", "a", "b", "c");
        Checks.edits("/x/,1d", "a\na\n", "a", "x", "a", "x");
        Checks.edits("/x/,/y/d", "a\nb\n", "a", "x", "c", "y", "b", "x", "d");
        // a number that was passed by still ends the range, where it is looked at next
        Checks.edits("/a/,2s/^/>/;/a/{n;n}", ">a\nb\nc\n>d\ne\n", "a", "b", "c", "d", "e");
        // looked at each time it is come to, also twice on a line
        Checks.edits(":a;/bb/,/a/=;s/b//;ta", "1\n1\na\n", "abb");
        // a range whose command is not come to does not begin
        Checks.edits("2{1,3d}", "a\nb\nc\n", "a", "b", "c");
    }

    private static void blocksAndBranches() {
        Checks.edits("2{p;s/b/x/};s/$/./", "a.\nb\nx.\n", "a", "b");
        Checks.edits("1{2{d};p}", "a\na\nb\n", "a", "b");
        Checks.edits("1!{}", "a\nb\n", "a", "b");
        Checks.edits("b;d", "a\n", "a");
        Checks.edits("bx;d;:x;s/a/b/", "b\n", "a");
        Checks.edits("bx;{d;:x;s/a/b/};s/b/c/", "c\n", "a");
        Checks.edits("1bx;s/$/!/;:x", "a\nb!\n", "a", "b");
        Checks.edits(":a;s/^.$/0&/;s/^..$/0&/;ta", "007\n", "7");
        Checks.edits("s/a/b/;t;s/$/!/", "b\nc!\n", "a", "c");
        Checks.edits("s/a/b/;tx;:x;t;s/$/!/", "b!\n", "a");
        Checks.edits("s/a/b/;n;t;s/$/!/", "b\nc\n", "a", "c");
        // a new cycle forgets, also one that D begins
        Checks.edits("2t;s/a/b/;2s/$/!/", "b\nc!\n", "a", "c");
        Checks.edits("1{N;s/a/x/;D};tz;s/$/!/;:z", "b!\n", "a", "b");
        Checks.edits("1!ty;s/a/x/;d;:y", "", "a", "a");
    }

    private static void substitutions() {
        Checks.edits("s/a/b/", "baa\n", "aaa");
        Checks.edits("s/a/b/g", "bbb\n", "aaa");
        Checks.edits("s/a/b/2", "aba\n", "aaa");
        Checks.edits("s/a/b/2g", "abb\n", "aaa");
        Checks.edits("s/a/b/4", "aaa\n", "aaa");
        Checks.edits("s/a/b/p", "b\nb\nc\n", "a", "c");
        Checks.edits("s/^a/b/g", "baa\n", "aaa");
        Checks.edits("s/a$/b/g", "aab\n", "aaa");
        Checks.edits("s//-/g", "-a-b-\n", "ab");
        Checks.edits("s/x*/-/g", "-b-a-c-\n-\n", "baxxc", "");
        Checks.edits("s/x*/-/2", "b-axxc\n", "baxxc");
        Checks.edits("s/x*/-/3", "ba-c\n", "baxxc");
        Checks.edits("s/x*/-/4", "baxxc-\n", "baxxc");
        Checks.edits("s/x*/-/3g", "ba-c-\n", "baxxc");
        Checks.edits("s/$/x/g", "abx\n", "ab");
        Checks.edits("s/^/x/g", "xab\n", "ab");
        Checks.edits("s/b*$/x/g", "ax\n", "abb");
        Checks.edits("s/\\(.\\)\\(.\\)/\\2\\1/g", "badce\n", "abcde");
        Checks.edits("s/b/[&\\&\\/\\\\\\n]/", "a[b&/\\\n]c\n", "abc");
        Checks.edits("s/a//g", "b\n", "aabaa");
        Checks.edits("s/\\(.\\)\\(.\\)\\(.\\)/\\3\\2\\1/", "cbad\n", "abcd");
        StreamForge often = Checks.edits("s/.*/&&&/;s/x*//g", "12345678901234567890".repeat(3) + "\n",
                "12345678901234567890");
        Checks.answers("a replacement at each place", 62, () -> often.ran(4));
        Checks.edits("s/\\(a*\\)b\\1/<\\1>/", "a<aa>\n", "aaabaa");
    }

    private static void exchangesAndTexts() {
        Checks.edits("y/abc/bca/", "bca d\n", "abc d");
        Checks.edits("y/ab/xx/;y///", "xxc\n", "abc");
        Checks.edits("N;y/ /_/", "a_b\nc_d\n", "a b", "c d");
        Checks.edits("a  x ;p}", "1\n x ;p}\n2\n x ;p}\n", "1", "2");
        Checks.edits("a x\na y\ni z", "z\n1\nx\ny\n", "1");
        Checks.edits("a \ni \nc ", "\n\n\n", "1");
        Checks.edits("2a x\n1i y", "y\n1\n2\nx\n", "1", "2");
        Checks.edits("a x\nq", "1\nx\n", "1", "2");
    }

    private static void changes() {
        Checks.edits("2c x\np", "a\na\nx\nc\nc\n", "a", "b", "c");
        Checks.edits("2,3c x", "a\nx\nd\n", "a", "b", "c", "d");
        Checks.edits("3,2c x", "a\nb\nx\nd\n", "a", "b", "c", "d");
        Checks.edits("2,3!c x", "x\nb\nc\nx\n", "a", "b", "c", "d");
        Checks.edits("/b/,/z/c x", "a\n", "a", "b", "c");
        Checks.edits("$,$c x", "a\n", "a", "b");
        Checks.edits("a y\nc x", "x\ny\n", "a");
        StreamForge forge = Checks.edits("h;c x", "x\n", "a");
        Checks.equal("the space has gone", Checks.space(forge), "");
        Checks.equal("the hold stays", Checks.hold(forge), "a");
    }

    private static void deletions() {
        Checks.edits("d;p", "", "a", "b");
        Checks.edits("a x\nd", "x\nx\n", "a", "b");
        Checks.edits("$!N;P;D", "a\nb\nc\n", "a", "b", "c");
        Checks.edits("D;p", "", "a", "b");
        Checks.edits("N;a x\nD", "x\nx\nc\n", "a", "b", "c");
        StreamForge forge = Checks.edits("$d", "a\n", "a", "bc");
        Checks.equal("d lets the space be", Checks.space(forge), "bc");
    }

    private static void nextLines() {
        Checks.edits("n;d", "a\nc\n", "a", "b", "c");
        Checks.edits("a x\nn;s/$/!/", "a\nx\nb!\n", "a", "b");
        Checks.edits("a x\nn;d", "a\nx\n", "a");
        Checks.edits("N;s/[^a-z]/+/", "a+b\nc\n", "a", "b", "c");
        Checks.edits("a x\nN;s/[^a-z]/+/", "x\na+b\n", "a", "b");
        Checks.edits("a x\nN;d", "a\nx\n", "a");
        Checks.edits("$!N;$!N;s/./x/g", "xxxxx\n", "a", "b", "c");
        Checks.edits("N;N;P;d", "a\n", "a", "b", "c");
        Checks.edits("N;s/a.b/x/;s/^[^c]*$/y/", "y\n", "a", "b");
    }

    private static void holds() {
        Checks.edits("x", "\na\n", "a", "b");
        Checks.edits("1h;2G", "a\nb\na\n", "a", "b");
        Checks.edits("H;$!d;g", "\na\nb\n", "a", "b");
        Checks.edits("1!G;h;$!d", "c\nb\na\n", "a", "b", "c");
        Checks.edits("h;s/a/b/;G", "b\na\n", "a");
        Checks.edits("g", "\n", "a");
    }

    private static void roomOfSpaceAndHold() {
        String ten = "0123456789";
        Checks.edits("s/.*/&&&&&&/", ten.repeat(6) + "\n", ten);
        StreamForge forge = Checks.breaks("s/./x/;s/.*/&&&&&&&/;p", NO_ROOM, "", ten);
        Checks.equal("nothing is replaced", Checks.space(forge), "x123456789");
        Checks.answers("replacements", 1, () -> forge.ran(4));
        String most = ten.repeat(5) + "1234567";
        Checks.edits("s/^/" + most + "/", most + "abc\n", "abc");
        Checks.breaks("s/^/" + most + "/", NO_ROOM, "", "abcd");
        String twenty = ten + ten;
        Checks.breaks("N;N", NO_ROOM, "", twenty, twenty, twenty);
        String less = twenty.substring(2);
        Checks.edits("N;N", twenty + "\n" + twenty + "\n" + less + "\n", twenty, twenty, less);
        StreamForge tested = Checks.breaks("N;a x\nN", NO_ROOM, "", twenty, twenty, twenty);
        Checks.answers("room is tested before a line is read", 2, () -> tested.ran(1));
        Checks.breaks("H;H;H", NO_ROOM, "", twenty);
        StreamForge held = Checks.breaks("h;H;H", NO_ROOM, "", twenty);
        Checks.equal("the hold stays", Checks.hold(held), twenty + "\n" + twenty);
        StreamForge joined = Checks.breaks("h;G;G", NO_ROOM, "", twenty);
        Checks.equal("the space stays", Checks.space(joined), twenty + "\n" + twenty);
    }

    private static void roomOfOutput() {
        String line = "abcdefghijklmnopqrstuvwx";
        String[] lines = new String[11];
        Arrays.fill(lines, line);
        String told = line + "\n";
        String text = "1234567890".repeat(4) + "123456789";
        Checks.edits("1i " + text + "\np", text + "\n" + told.repeat(22), lines);
        Checks.breaks("1i " + text + "0\np", NO_ROOM, text + "0\n" + told.repeat(21), lines);
        Checks.breaks("p;p", NO_ROOM, told.repeat(24), lines);
        // texts that were appended come one by one, and the one without room does not come
        Checks.breaks("p;$a 12345678901234567890\n$a 123456789012345678901234567890", NO_ROOM,
                told.repeat(22) + "12345678901234567890\n", lines);
        StreamForge kept = Checks.breaks("p;$!b;s/a/1/p;s/1/2/p;s/2/3/p;s/3/4/p", NO_ROOM,
                told.repeat(21) + told.replace('a', '1') + told.replace('a', '2') + told.replace('a', '3'), lines);
        Checks.equal("s whose p has no room replaces nothing", Checks.space(kept), line.replace('a', '3'));
        Checks.answers("its replacements", 3, () -> kept.ran(4));
        // up to 599 characters: there is room for an empty text, and for nothing else
        String nearly = "1i " + text + "\np;$!b;s/.*//;i 12345678901234567890123\n";
        String before = text + "\n" + told.repeat(21) + "12345678901234567890123\n";
        Checks.edits(nearly, before + "\n", lines);
        Checks.breaks(nearly + "p", NO_ROOM, before + "\n", lines);
        Checks.breaks(nearly + "=", NO_ROOM, before, lines);
        Checks.breaks(nearly + "c x", NO_ROOM, before, lines);
        StreamForge empty = Checks.breaks(nearly + "s/^/x/p", NO_ROOM, before, lines);
        Checks.equal("s whose p lacks room for its 10", Checks.space(empty), "");
        Checks.breaks(nearly + "s/^//p", NO_ROOM, before + "\n", lines);
    }

    private static void roomOfAppended() {
        String text = "a " + "1234567890".repeat(4) + "123456789\n";
        String told = text.substring(2);
        Checks.edits(text.repeat(4), "x\n" + told.repeat(4), "x");
        Checks.breaks(text.repeat(4) + "a ", NO_ROOM, "", "x");
        Checks.breaks("p;" + text.repeat(4) + "a x", NO_ROOM, "x\n", "x");
        Checks.edits(text.repeat(4) + "d", told.repeat(8), "x", "y");
    }

    private static void tooManyCommands() {
        StreamForge forge = Checks.breaks("p;:a;ba", ArithmeticException.class, "x\n", "x", "y");
        Checks.answers("commands begun", 200, () -> forge.ran(2));
        String twenty = "2h;".repeat(20);
        Checks.edits(twenty, "1\n".repeat(10), "1", "1", "1", "1", "1", "1", "1", "1", "1", "1");
        StreamForge late = Checks.breaks(twenty, ArithmeticException.class, "1\n".repeat(10),
                "1", "1", "1", "1", "1", "1", "1", "1", "1", "1", "1");
        Checks.answers("lines read", 11, () -> late.ran(1));
        // what stands in a block that is not done is not begun, nor is a } counted
        StreamForge skipped = Checks.edits("2!d;{p;3{p;p}}", "b\nb\n", "a", "b");
        Checks.answers("commands begun", 5, () -> skipped.ran(2));
        Checks.breaks("G;s/^/x/;D;", ArithmeticException.class, "", "");
    }

    private static void runsAreNew() {
        StreamForge forge = Checks.edits("x;G;1,/z/s/^/>/", ">\na\n>a\nb\n", "a", "b");
        Checks.answers("a second run", 9, forge::run);
        Checks.equal("begins with nothing", Checks.output(forge), ">\na\n>a\nb\n");
        forge.clear(1);
        Checks.answers("a run without lines", 0, forge::run);
        Checks.equal("its space", Checks.space(forge), "");
        Checks.equal("its hold", Checks.hold(forge), "");
        Checks.feed(forge, "q");
        Checks.answers("a run with another line", 4, forge::run);
    }
}
