import java.util.Arrays;

/** Promise 8: what a run answers, and where it finds no room or has begun too many commands. */
public final class Promise08RunTest {
    private static final String LINE = "abcdefghijklmnopqrstuvwx";
    private static final String TEN = "0123456789";

    public static void main(String[] args) {
        answers();
        nothingParsed();
        roomForNextLines();
        roomOfTheSpace();
        roomOfTheHold();
        fullSpaceAndHold();
        roomOfTheOutput();
        roomOfTheOutputForWhatIsAppended();
        roomOfTheOutputForD();
        fullOutput();
        roomOfWhatIsAppended();
        appendedInEachCycle();
        atMostTwoHundredCommands();
        whatCountsAsBegun();
        runsAreNew();
        whatAThrowLeaves();
        Checks.end();
    }

    private static String[] times(int count, String line, String... behind) {
        String[] lines = new String[count + behind.length];
        Arrays.fill(lines, line);
        System.arraycopy(behind, 0, lines, count, behind.length);
        return lines;
    }

    private static void answers() {
        Checks.edits("p", "");
        Checks.edits("d", "", "a");
        Checks.edits("p", "a\na\n\n\n", "a", "");
    }

    private static void nothingParsed() {
        Checks.refuses("run of a new object", Checks.NOT_NOW, () -> new StreamForge().run());
        Checks.leavesAll("run of what is not parsed", Checks.NOT_NOW, () -> Checks.written("p", "a"), StreamForge::run);
        StreamForge forge = Checks.written("k", "a");
        Checks.refuses("parse", Checks.WRONG, forge::parse);
        Checks.refuses("run after a refused parse", Checks.NOT_NOW, forge::run);
    }

    private static void roomForNextLines() {
        Checks.edits("N;N", LINE + "\n" + LINE + "\n" + "012345678\n", LINE, LINE, "012345678");
        Checks.edits("N;N", LINE + "\n" + LINE + "\n" + TEN + "\n", LINE, LINE, TEN);
        StreamForge forge = Checks.breaks("N;a x\nN;p", Checks.NO_ROOM, "", LINE, LINE, TEN + "a");
        Checks.equal("the space stays", Checks.space(forge), LINE + "\n" + LINE);
        Checks.counts("N without room", forge, 0, 2, 3, 1, 0);
    }

    private static void roomOfTheSpace() {
        // the hold has 49 characters, so that there is room for 10 and a 10
        String pair = LINE + "\n" + LINE;
        Checks.edits("1{h;G;h;d};G", "012345678\n" + pair + "\n", LINE, "012345678");
        Checks.edits("1{h;G;h;d};G", TEN + "\n" + pair + "\n", LINE, TEN);
        StreamForge forge = Checks.breaks("1{h;G;h;d};G;p", Checks.NO_ROOM, "", LINE, TEN + "a");
        Checks.equal("the space stays", Checks.space(forge), TEN + "a");
        Checks.equal("the hold stays", Checks.hold(forge), pair);
        // an empty hold brings its 10
        String most = TEN.repeat(6);
        Checks.edits("s/.*/&&&&&&/;s/0//;G", most.substring(1) + "\n\n", TEN);
        Checks.breaks("s/.*/&&&&&&/;G", Checks.NO_ROOM, "", TEN);
    }

    private static void roomOfTheHold() {
        String pair = LINE + "\n" + LINE;
        Checks.edits("1{h;G;h;d};H;x", pair + "\n012345678\n", LINE, "012345678");
        Checks.edits("1{h;G;h;d};H;x", pair + "\n" + TEN + "\n", LINE, TEN);
        StreamForge forge = Checks.breaks("1{h;G;h;d};H;p", Checks.NO_ROOM, "", LINE, TEN + "a");
        Checks.equal("the space stays", Checks.space(forge), TEN + "a");
        Checks.equal("the hold stays", Checks.hold(forge), pair);
        String most = TEN.repeat(6);
        StreamForge full = Checks.edits("s/.*/&&&&&&/;s/0//;H", most.substring(1) + "\n", TEN);
        Checks.equal("a full hold", Checks.hold(full), "\n" + most.substring(1));
        Checks.breaks("s/.*/&&&&&&/;H", Checks.NO_ROOM, "", TEN);
    }

    private static void fullSpaceAndHold() {
        String most = TEN.repeat(6);
        String changed = most.replace('1', 'b');
        StreamForge forge = Checks.edits("s/.*/&&&&&&/;h;x;g;s/0/a/g;x;y/1/b/;P", (changed + "\n").repeat(2), TEN);
        Checks.equal("the space", Checks.space(forge), changed);
        Checks.equal("the hold", Checks.hold(forge), most.replace('0', 'a'));
    }

    /** A script that leaves just this room in the output for what the commands tell on line 11. */
    private static String leaving(int room, String commands) {
        return "1,10{p;b\n}\n11i " + "_".repeat(99 - room) + "\n" + commands;
    }

    private static String before(int room) {
        return (LINE + "\n").repeat(20) + "_".repeat(99 - room) + "\n";
    }

    /** What is told on line 11 finds room, and none of it comes where a character's room is missing. */
    private static void needs(String told, String commands, String... linesFrom11) {
        String[] lines = times(10, LINE, linesFrom11);
        int room = told.length();
        Checks.edits(leaving(room + 1, commands), before(room + 1) + told, lines);
        Checks.edits(leaving(room, commands), before(room) + told, lines);
        StreamForge forge = Checks.breaks(leaving(room - 1, commands), Checks.NO_ROOM, before(room - 1), lines);
        Checks.answers("lines read until it broke", 11, () -> forge.ran(1));
    }

    private static void roomOfTheOutput() {
        needs("abc\n", "", "abc");
        needs("\n", "", "");
        needs("abc\n", "b;p", "abc");
        needs("abc\n", "p;d", "abc");
        needs("a\n", "s/b/\\n/;P;d", "abc");
        needs("xyz\n", "i xyz\nd", "abc");
        needs("\n", "i \nd", "abc");
        needs("11\n", "=;d", "abc");
        needs("_bc\n", "s/a/_/p;d", "abc");
        needs("abc\n", "q", "abc", "def");
        needs("abc\n", "n;d", "abc", "def");
        needs("abc\n", "n;d", "abc");
        needs("abc\n", "N;d", "abc");
        needs("xyz\n", "c xyz", "abc");
    }

    private static void roomOfTheOutputForWhatIsAppended() {
        needs("xyz\n", "a xyz\nd", "abc");
        needs("\n", "a \nd", "abc");
        needs("xyz\n", "a xyz\nN;d", "abc", "def");
        needs("xyz\n", "a xyz\nD", "abc");
        // the space comes before what was appended
        String[] lines = times(10, LINE, "abc");
        Checks.edits(leaving(8, "11a xyz"), before(8) + "abc\nxyz\n", lines);
        Checks.breaks(leaving(7, "11a xyz"), Checks.NO_ROOM, before(7) + "abc\n", lines);
        Checks.breaks(leaving(7, "11a xyz\nq"), Checks.NO_ROOM, before(7) + "abc\n", lines);
        Checks.breaks(leaving(7, "11a xyz\nn"), Checks.NO_ROOM, before(7) + "abc\n", lines);
        Checks.breaks(leaving(3, "11a xyz"), Checks.NO_ROOM, before(3), lines);
        StreamForge forge = Checks.breaks(leaving(7, "11a xyz\nn;s/d/e/"), Checks.NO_ROOM, before(7) + "abc\n",
                times(10, LINE, "abc", "def"));
        Checks.equal("the next line does not come", Checks.space(forge), "abc");
        Checks.answers("lines read", 11, () -> forge.ran(1));
    }

    /** D puts out what was appended before it takes the first line away. */
    private static void roomOfTheOutputForD() {
        String[] lines = times(10, LINE, "abc");
        String commands = "\na xyz\ns/b/\\n/;D\n};d";
        String begin = "1,10{p;b\n}\n/b/{i " + "_".repeat(95);
        Checks.edits(begin + commands, before(4) + "xyz\n", lines);
        StreamForge forge = Checks.breaks(begin + "_" + commands, Checks.NO_ROOM, before(3), lines);
        Checks.equal("the space stays", Checks.space(forge), "a\nc");
        Checks.answers("cycles", 11, () -> forge.ran(3));
    }

    private static void fullOutput() {
        StreamForge forge = Checks.edits("p", (LINE + "\n").repeat(24), times(12, LINE));
        Checks.answers("characters", 600, () -> forge.ran(0));
        Checks.breaks("p;p", Checks.NO_ROOM, (LINE + "\n").repeat(24), times(12, LINE));
        // a run that comes behind it has all its room again
        Checks.answers("the same run again", 600, forge::run);
    }

    private static void roomOfWhatIsAppended() {
        String text = TEN.repeat(20);
        Checks.edits("a " + text.substring(2) + "\nd", text.substring(2) + "\n", "x");
        Checks.edits("a " + text.substring(1) + "\nd", text.substring(1) + "\n", "x");
        StreamForge forge = Checks.breaks("p;a " + text + "\nd", Checks.NO_ROOM, "x\n", "x");
        Checks.counts("an a without room", forge, 2, 1, 2, 1, 0);
        Checks.equal("its space", Checks.space(forge), "x");
        // each text has a 10
        String quarter = "a " + text.substring(151) + "\n";
        String told = text.substring(151) + "\n";
        Checks.edits(quarter.repeat(4), "x\n" + told.repeat(4), "x");
        Checks.breaks(quarter.repeat(4) + "a ", Checks.NO_ROOM, "", "x");
        Checks.breaks(quarter.repeat(3) + "a " + text.substring(150), Checks.NO_ROOM, "", "x");
        Checks.edits(quarter.repeat(3) + "a " + text.substring(152) + "\na ",
                "x\n" + told.repeat(3) + text.substring(152) + "\n\n", "x");
    }

    private static void appendedInEachCycle() {
        String text = TEN.repeat(20).substring(1);
        Checks.edits("a " + text + "\nd", (text + "\n").repeat(3), "x", "y", "z");
        // also in one that D begins
        Checks.edits("s/x/\\n/;a " + text + "\nD", (text + "\n").repeat(2), "axb");
        // neither i nor c appends
        Checks.edits("a " + text + "\ni x\nc y", "x\ny\n" + text + "\n", "x");
    }

    private static void atMostTwoHundredCommands() {
        String forty = "2h;".repeat(40);
        StreamForge all = Checks.edits(forty, "1\n".repeat(5), times(5, "1"));
        Checks.counts("a run of 200 commands", all, 10, 5, 200, 5, 0);
        StreamForge beyond = Checks.breaks(forty, Checks.TOO_MANY, "1\n".repeat(5), times(6, "1"));
        Checks.counts("a run of 201 commands", beyond, 10, 6, 200, 6, 0);
        Checks.edits("2h;".repeat(33), "1\n".repeat(6), times(6, "1"));
        // the 201st is not done
        StreamForge late = Checks.breaks(":a;s/^/x/;s/x//;ba", Checks.TOO_MANY, "", "y");
        Checks.equal("the space", Checks.space(late), "xy");
        Checks.counts("a loop", late, 0, 1, 200, 1, 133);
    }

    private static void whatCountsAsBegun() {
        Checks.counts("a label", Checks.edits(":a", "x\n", "x"), 2, 1, 1, 1, 0);
        Checks.counts("one that is not done", Checks.edits("2p;$!p", "x\n", "x"), 2, 1, 2, 1, 0);
        Checks.counts("a block", Checks.edits("{p};{}", "x\nx\n", "x"), 4, 1, 3, 1, 0);
        Checks.counts("a block that is not done", Checks.edits("2{p;p}", "x\n", "x"), 2, 1, 1, 1, 0);
        Checks.counts("what a branch leaves out", Checks.edits("bx;p;p;:x", "x\n", "x"), 2, 1, 1, 1, 0);
        Checks.breaks("p;:a;ba", Checks.TOO_MANY, "x\n", "x", "y");
        Checks.breaks("{:a;ba}", Checks.TOO_MANY, "", "x");
        Checks.breaks("G;s/^/x/;D", Checks.TOO_MANY, "", "");
    }

    private static void runsAreNew() {
        StreamForge forge = Checks.edits("x;G;1,/z/s/^/>/", ">\na\n>a\nb\n", "a", "b");
        Checks.answers("a second run", 9, forge::run);
        Checks.equal("begins with nothing", Checks.output(forge), ">\na\n>a\nb\n");
        forge.clear(1);
        Checks.answers("a run without lines", 0, forge::run);
        Checks.counts("it", forge, 0, 0, 0, 0, 0);
        Checks.equal("its space", Checks.space(forge), "");
        Checks.equal("its hold", Checks.hold(forge), "");
        Checks.feed(forge, "q");
        Checks.answers("a run with another line", 4, forge::run);
        StreamForge broken = Checks.breaks("a x\nh;s/.*/&&&/;G", Checks.NO_ROOM, "", TEN + TEN);
        broken.clear(1);
        Checks.feed(broken, "c");
        Checks.answers("a run behind one that threw", 8, broken::run);
        Checks.equal("nothing stays appended", Checks.output(broken), "ccc\nc\nx\n");
    }

    private static void whatAThrowLeaves() {
        StreamForge forge = Checks.breaks("s/a/b/p;:l;bl", Checks.TOO_MANY, "b\n", "a", "c");
        Checks.answers("the script", 13, () -> forge.count(0));
        Checks.answers("the lines", 2, () -> forge.count(1));
        Checks.answers("the commands", 3, () -> forge.count(2));
        Checks.answers("where", -2, forge::where);
        Checks.answers("a match", 0, () -> forge.match(0, 0, 0));
        Checks.refuses("the run again", Checks.TOO_MANY, forge::run);
        Checks.equal("its output", Checks.output(forge), "b\n");
    }
}
