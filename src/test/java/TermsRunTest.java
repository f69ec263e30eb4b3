import java.util.Arrays;

/** Terms: what a run does, command by command. */
public final class TermsRunTest {
    public static void main(String[] args) {
        cycles();
        lineNumbers();
        lastLines();
        patternsAsAddresses();
        inversions();
        ranges();
        rangesWithNumbersPassedBy();
        rangesWithinARun();
        blocks();
        branches();
        branchesAfterReplacements();
        exchanges();
        texts();
        changes();
        changesOfRanges();
        deletions();
        deletionsOfFirstLines();
        prints();
        nextLines();
        joinedLines();
        holds();
        numbersOfLines();
        quits();
        Checks.end();
    }

    private static String[] times(int count, String line) {
        String[] lines = new String[count];
        Arrays.fill(lines, line);
        return lines;
    }

    private static void cycles() {
        Checks.counts("a run without lines", Checks.edits("p;p", ""), 0, 0, 0, 0, 0);
        Checks.counts("a run of one line", Checks.edits("", "a\n", "a"), 2, 1, 0, 1, 0);
        Checks.counts("a run of twelve lines", Checks.edits("", "\n".repeat(12), times(12, "")), 12, 12, 0, 12, 0);
        Checks.edits("", "a\n\nb\n", "a", "", "b");
        Checks.edits("p", "a\na\n\n\n", "a", "");
        StreamForge forge = Checks.edits("s/a/b/", "b\nb\n", "a", "a");
        Checks.answers("the same run again", 4, forge::run);
        Checks.equal("lines stay as they are", Checks.output(forge), "b\nb\n");
    }

    private static void lineNumbers() {
        Checks.edits("1d", "b\nc\n", "a", "b", "c");
        Checks.edits("2d", "a\nc\n", "a", "b", "c");
        Checks.edits("3d", "a\nb\n", "a", "b", "c");
        Checks.edits("4d;99d", "a\nb\nc\n", "a", "b", "c");
        Checks.edits("12!d", "l\n", "a", "b", "c", "d", "e", "f", "g", "h", "i", "j", "k", "l");
        Checks.edits("10!d", "j\n", "a", "b", "c", "d", "e", "f", "g", "h", "i", "j", "k", "l");
        // it is the latest line that is read, not the one that the cycle began with
        Checks.edits("n;2s/^/>/;1s/^/!/", "a\n>b\n", "a", "b");
        Checks.edits("N;2s/^/>/;1s/^/!/", ">a\nb\n", "a", "b");
    }

    private static void lastLines() {
        Checks.edits("$d", "a\nb\n", "a", "b", "c");
        Checks.edits("$d", "", "a");
        Checks.edits("$!d", "c\n", "a", "b", "c");
        Checks.edits("n;$s/^/>/", "a\n>b\n", "a", "b");
        Checks.edits("N;$s/^/>/", "a\nb\n>c\nd\n", "a", "b", "c", "d");
    }

    private static void patternsAsAddresses() {
        Checks.edits("/b/d", "a\nc\n", "a", "b", "c");
        Checks.edits("/^b$/!d", "b\n", "a", "b", "bb");
        Checks.edits("//d", "", "a", "");
        Checks.edits("/^$/d", "a\n", "a", "");
        // the space as it stands there, not the line
        Checks.edits("s/a/b/;/a/d;/b/s/$/!/", "b!\n", "a");
        Checks.edits("N;/a.b/d", "c\n", "a", "b", "c");
    }

    private static void inversions() {
        Checks.edits("2!d", "b\n", "a", "b", "c");
        Checks.edits("/b/!s/^/>/", ">a\nb\n>c\n", "a", "b", "c");
        Checks.edits("2,3!d", "b\nc\n", "a", "b", "c", "d");
        Checks.edits("2!{s/^/>/;s/$/</}", ">a<\nb\n", "a", "b");
    }

    private static void ranges() {
        Checks.edits("2,3d", "a\nd\n", "a", "b", "c", "d");
        Checks.edits("1,1d", "b\n", "a", "b");
        Checks.edits("1,$d", "", "a", "b", "c");
        Checks.edits("2,99d", "a\n", "a", "b", "c");
        // a second number below, on and above the line where the range begins
        Checks.edits("3,2d", "a\nb\nd\n", "a", "b", "c", "d");
        Checks.edits("3,3d", "a\nb\nd\n", "a", "b", "c", "d");
        Checks.edits("3,4d", "a\nb\ne\n", "a", "b", "c", "d", "e");
        Checks.edits("/x/,1d", "a\na\n", "a", "x", "a", "x");
        Checks.edits("/x/,2d", "a\na\n", "a", "x", "a", "x");
        Checks.edits("/x/,3d", "a\n", "a", "x", "a", "x");
        // the second one is looked at from the next time on
        Checks.edits("/x/,/x/d", "a\nb\n", "a", "x", "c", "x", "b");
        Checks.edits("/x/,/y/d", "a\nb\n", "a", "x", "c", "y", "b", "xy", "d");
        Checks.edits("$,/a/d", "b\n", "b", "a");
        Checks.edits("2,/a/d", "a\nb\n", "a", "a", "c", "a", "b");
        // a range that has ended may begin again
        Checks.edits("/x/,/y/s/^/>/", ">x\n>y\na\n>x\n>a\n", "x", "y", "a", "x", "a");
        // on the line where it ends it does not begin again
        Checks.edits("/x/,/x/s/^/>/", ">x\n>x\n>x\n>a\n", "x", "x", "x", "a");
    }

    private static void rangesWithNumbersPassedBy() {
        // the lines 2 to 3 go by while the command is not come to: it ends where it is looked at next
        Checks.edits("/a/,2s/^/>/;/a/{n;n}", ">a\nb\nc\n>d\ne\n", "a", "b", "c", "d", "e");
        Checks.edits("/a/,4s/^/>/;/a/{n;n}", ">a\nb\nc\n>d\ne\n", "a", "b", "c", "d", "e");
        Checks.edits("/a/,5s/^/>/;/a/{n;n}", ">a\nb\nc\n>d\n>e\nf\n", "a", "b", "c", "d", "e", "f");
        // a first number that was passed by does not fit
        Checks.edits("n;1,3s/^/>/", "a\nb\nc\nd\n", "a", "b", "c", "d");
        Checks.edits("N;2,3s/^/>/", ">a\nb\n>c\nd\ne\nf\n", "a", "b", "c", "d", "e", "f");
    }

    private static void rangesWithinARun() {
        // looked at each time it is come to, also twice on a line
        Checks.edits(":a;/bb/,/a/=;s/b//;ta", "1\n1\na\n", "abb");
        // and not when it is not come to
        Checks.edits("2{1,3d}", "a\nb\nc\n", "a", "b", "c");
        Checks.edits("3!{/b/,/c/s/^/>/}", "a\n>b\nc\n>d\n", "a", "b", "c", "d");
        // two commands have a range each
        Checks.edits("1,2s/^/>/;2,3s/$/</", ">a\n>b<\nc<\n", "a", "b", "c");
        StreamForge forge = Checks.edits("2,/z/s/^/>/", "a\n>b\n", "a", "b");
        forge.run();
        Checks.equal("a range ends with its run", Checks.output(forge), "a\n>b\n");
    }

    private static void blocks() {
        Checks.edits("2{p;s/b/x/};s/$/./", "a.\nb\nx.\n", "a", "b");
        Checks.edits("1{2{d};p}", "a\na\nb\n", "a", "b");
        Checks.edits("1!{}", "a\nb\n", "a", "b");
        Checks.edits("1{s/^/1/;{s/^/2/;{s/^/3/;{s/^/4/}}}};s/^/0/", "04321a\n0b\n", "a", "b");
        Checks.edits("1{{{{s/^/4/};s/^/3/};s/^/2/};s/^/1/}", "1234a\nb\n", "a", "b");
        Checks.edits("2{d}{s/^/>/}", ">a\n", "a", "b");
    }

    private static void branches() {
        Checks.edits("b;d", "a\n", "a");
        Checks.edits("{b;d};d", "a\n", "a");
        Checks.edits("bx;d;:x;s/a/b/", "b\n", "a");
        Checks.edits("bx;{d;:x;s/a/b/};s/b/c/", "c\n", "a");
        Checks.edits("{{bx};d};:x", "a\n", "a");
        Checks.edits("1bx;s/$/!/;:x", "a\nb!\n", "a", "b");
        Checks.edits("bz;:a;s/^/a/;b;:z;s/^/z/;ba", "az\n", "");
        Checks.edits("a x\nb;d", "a\nx\n", "a");
    }

    private static void branchesAfterReplacements() {
        Checks.edits(":a;s/^.$/0&/;s/^..$/0&/;ta", "007\n", "7");
        Checks.edits("s/a/b/;t;s/$/!/", "b\nc!\n", "a", "c");
        Checks.edits("tx;s/$/!/;:x", "a!\n", "a");
        // one t that went is enough, one that did not go changes nothing
        Checks.edits("s/a/b/;tx;:x;t;s/$/!/", "b!\n", "a");
        Checks.edits("s/a/b/;2tx;:x;t;s/$/!/", "b\n", "a");
        Checks.edits("s/a/b/;s/z/y/;t;s/$/!/", "b\n", "a");
        // n and N begin no cycle
        Checks.edits("s/a/b/;n;t;s/$/!/", "b\nc\n", "a", "c");
        Checks.edits("s/a/b/;N;t;s/$/!/", "b\nc\n", "a", "c");
        // a new cycle forgets, also one that D begins
        Checks.edits("2t;s/a/b/;2s/$/!/", "b\nc!\n", "a", "c");
        Checks.edits("1{s/a/b/;d};t;s/$/!/", "c!\n", "a", "c");
        Checks.edits("1{N;s/a/x/;D};tz;s/$/!/;:z", "b!\n", "a", "b");
        Checks.edits("s/a/b/;bx;:x;t;s/$/!/", "b\n", "a");
        // a replacement by the same counts
        Checks.edits("s/a/a/;t;d", "a\n", "a", "b");
        Checks.edits("s/b/x/2;t;d", "bx\n", "b", "bb");
    }

    private static void exchanges() {
        Checks.edits("y/abc/bca/", "bca d\n", "abc d");
        Checks.edits("y/ab/xx/", "xxcxx\n", "abcba");
        Checks.edits("N;y/ /_/", "a_b\nc_d\n", "a b", "c d");
        Checks.edits("y/a/b/", "\n", "");
        Checks.edits("y/a/b/;t;s/$/!/", "b!\n", "a");
        Checks.counts("y", Checks.edits("y/a/b/", "bb\n", "aa"), 3, 1, 1, 1, 0);
    }

    private static void texts() {
        Checks.edits("a  x ;p}", "1\n x ;p}\n2\n x ;p}\n", "1", "2");
        Checks.edits("a x\na y\ni z\np", "z\n1\n1\nx\ny\n", "1");
        Checks.edits("a \ni ", "\n1\n\n", "1");
        Checks.edits("2a x\n1i y", "y\n1\n2\nx\n", "1", "2");
        Checks.edits("1a x", "1\nx\n2\n", "1", "2");
        StreamForge forge = Checks.edits("a x\ni y", "y\n1\nx\n", "1");
        Checks.equal("texts leave the space", Checks.space(forge), "1");
    }

    private static void changes() {
        Checks.edits("2c x\np", "a\na\nx\nc\nc\n", "a", "b", "c");
        Checks.edits("c \np", "\n\n", "a", "b");
        Checks.edits("a y\nc x", "x\ny\n", "a");
        Checks.edits("$!N;c x", "x\nx\n", "a", "b", "c");
        StreamForge forge = Checks.edits("h;c x", "x\n", "a");
        Checks.equal("the space has gone", Checks.space(forge), "");
        Checks.equal("the hold stays", Checks.hold(forge), "a");
        Checks.counts("c", forge, 2, 1, 2, 1, 0);
    }

    private static void changesOfRanges() {
        Checks.edits("2,3c x", "a\nx\nd\n", "a", "b", "c", "d");
        Checks.edits("3,2c x", "a\nb\nx\nd\n", "a", "b", "c", "d");
        Checks.edits("3,3c x", "a\nb\nx\nd\n", "a", "b", "c", "d");
        Checks.edits("3,4c x", "a\nb\nx\n", "a", "b", "c", "d");
        Checks.edits("2,$c x", "a\nx\n", "a", "b", "c");
        Checks.edits("/b/,/c/c x", "a\nx\nd\n", "a", "b", "c", "d");
        Checks.edits("/b/,/b/c x", "a\nx\n", "a", "b", "b");
        Checks.edits("/b/,/z/c x", "a\n", "a", "b", "c");
        // with ! at each time
        Checks.edits("2,3!c x", "x\nb\nc\nx\n", "a", "b", "c", "d");
        Checks.edits("2!c x", "x\nb\nx\n", "a", "b", "c");
        // a block's addresses are not those of its c
        Checks.edits("1,3{c x\n}", "x\nx\nx\n", "a", "b", "c");
        // one that another command has ended in between says nothing of this one
        Checks.edits("1,2s/^/>/;1,3c x", "x\n", "a", "b", "c");
    }

    private static void deletions() {
        Checks.edits("d;p", "", "a", "b");
        Checks.edits("a x\nd", "x\nx\n", "a", "b");
        Checks.edits("a x\ni y\nd", "y\nx\n", "a");
        Checks.counts("d", Checks.edits("d;p", "", "a", "b"), 0, 2, 2, 2, 0);
    }

    private static void deletionsOfFirstLines() {
        Checks.edits("D;p", "", "a", "b");
        Checks.edits("a x\nD", "x\nx\n", "a", "b");
        Checks.edits("$!N;P;D", "a\nb\nc\n", "a", "b", "c");
        Checks.edits("N;a x\nD", "x\nx\nc\n", "a", "b", "c");
        StreamForge forge = Checks.edits("N;N;D", "b\nc\n", "a", "b", "c");
        Checks.counts("D", forge, 4, 3, 4, 2, 0);
        Checks.equal("the space behind its first 10", Checks.space(forge), "b\nc");
        // a 10 at the very beginning, and one at the very end
        Checks.edits("s/x/\\n/;/^a*$/!D", "a\n", "xa");
        Checks.edits("s/x/\\n/;/a/D;s/$/!/", "!\n", "ax");
        // a space of 60 characters, which is left with 59
        Checks.edits("/9$/s/.*/&&&&&&/;s/^0/\\n/;s/.$/x/;/^[^1]/D",
                "123456789" + "0123456789".repeat(4) + "012345678x\n", "0123456789");
        // the commands begin anew, and ranges go on
        Checks.edits("s/x/\\n/g;/a/,/c/s/^/>/;P;D", ">a\n>b\nc\n", "axbxc");
    }

    private static void prints() {
        Checks.edits("p;d", "a\n\n", "a", "");
        Checks.edits("P;d", "a\n\n", "a", "");
        Checks.edits("N;P;d", "a\n\n", "a", "b", "", "c");
        Checks.edits("N;N;P;d", "a\n", "a", "b", "c");
        Checks.edits("N;p;d", "a\nb\n", "a", "b");
    }

    private static void nextLines() {
        Checks.edits("n;d", "a\nc\n", "a", "b", "c");
        Checks.edits("n;s/$/!/", "a\nb!\nc\n", "a", "b", "c");
        Checks.edits("$!n;s/$/!/", "a\nb!\nc!\n", "a", "b", "c");
        Checks.edits("a x\nn;s/$/!/", "a\nx\nb!\n", "a", "b");
        Checks.edits("a x\nn;d", "a\nx\n", "a");
        Checks.counts("n", Checks.edits("n;n;n;p", "a\nb\nc\n", "a", "b", "c"), 6, 3, 3, 1, 0);
        Checks.equal("n without a next line lets the space be", Checks.space(Checks.edits("n;d", "a\n", "a")), "a");
    }

    private static void joinedLines() {
        Checks.edits("N;s/[^a-z]/+/", "a+b\nc\n", "a", "b", "c");
        Checks.edits("N;N;s/[^a-z]/+/g", "a+b+c\n", "a", "b", "c");
        Checks.edits("$!N;$!N;s/./x/g", "xxxxx\n", "a", "b", "c");
        Checks.edits("a x\nN;s/[^a-z]/+/", "x\na+b\n", "a", "b");
        Checks.edits("a x\nN;d", "a\nx\n", "a");
        Checks.edits("N;s/^/>/", ">\n\n", "", "");
        Checks.counts("N", Checks.edits("N;N;N;p", "a\nb\nc\n", "a", "b", "c"), 6, 3, 3, 1, 0);
    }

    private static void holds() {
        Checks.edits("x", "\na\n", "a", "b");
        Checks.edits("g", "\n", "a");
        Checks.edits("G", "a\n\n", "a");
        Checks.edits("1h;2G", "a\nb\na\n", "a", "b");
        Checks.edits("H;$!d;g", "\na\nb\n", "a", "b");
        Checks.edits("1!G;h;$!d", "c\nb\na\n", "a", "b", "c");
        Checks.edits("h;s/a/b/;G", "b\na\n", "a");
        Checks.edits("h;s/a/b/;x;s/$/!/;G", "a!\nb\n", "a");
        Checks.edits("1{h;d};2{g;s/a/c/;p;g}", "c\na\n", "a", "b");
        StreamForge forge = Checks.edits("h;h;s/a/b/", "b\n", "a");
        Checks.equal("the hold is a copy", Checks.hold(forge), "a");
        Checks.equal("a hold that was never filled", Checks.hold(Checks.edits("p", "a\na\n", "a")), "");
    }

    private static void numbersOfLines() {
        StringBuilder due = new StringBuilder();
        for (int number = 1; number <= 12; number++) {
            due.append(number).append("\n");
        }
        Checks.edits("=;d", due.toString(), times(12, "a"));
        Checks.edits("n;=;d", "a\n2\n", "a", "b");
        Checks.edits("N;=;d", "2\n", "a", "b");
    }

    private static void quits() {
        Checks.edits("2q;p", "a\na\nb\n", "a", "b", "c");
        Checks.edits("a x\nq", "1\nx\n", "1", "2");
        Checks.edits("q;d", "a\n", "a");
        StreamForge forge = Checks.edits("2{h;s/b/c/;q}", "a\nc\n", "a", "b", "c");
        Checks.counts("q", forge, 4, 2, 5, 2, 1);
        Checks.equal("its space", Checks.space(forge), "c");
        Checks.equal("its hold", Checks.hold(forge), "b");
    }
}
