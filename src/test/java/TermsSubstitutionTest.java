import java.util.Arrays;

/** Terms: which matches an s sees, which it replaces, and by what. */
public final class TermsSubstitutionTest {
    private static final String TEN = "0123456789";

    public static void main(String[] args) {
        whichIsReplaced();
        digits();
        beginningsAndEnds();
        emptyMatches();
        emptyMatchesBehindOthers();
        emptyMatchesAreCounted();
        prints();
        nothingReplaced();
        longSpaces();
        roomOfTheSpace();
        roomOfTheOutput();
        Checks.end();
    }

    private static void whichIsReplaced() {
        Checks.edits("s/a/b/", "baa\n", "aaa");
        Checks.edits("s/a/b/1", "baa\n", "aaa");
        Checks.edits("s/a/b/g", "bbb\n", "aaa");
        Checks.edits("s/a/b/1g", "bbb\n", "aaa");
        Checks.edits("s/a/b/2", "aba\n", "aaa");
        Checks.edits("s/a/b/2g", "abb\n", "aaa");
        Checks.edits("s/a/b/g3", "aab\n", "aaa");
        Checks.edits("s/a/b/4", "aaa\n", "aaa");
        Checks.edits("s/a/b/4g", "aaa\n", "aaa");
        // what was put in is not looked at again, and matches do not overlap
        Checks.edits("s/a/aa/g", "aaaa\n", "aa");
        Checks.edits("s/aba/x/g", "xba\n", "ababa");
    }

    private static void digits() {
        for (int k = 1; k <= 9; k++) {
            for (int there = k - 1; there <= k + 1; there++) {
                String line = "a".repeat(there);
                String alone = there < k ? line : "a".repeat(k - 1) + "b" + "a".repeat(there - k);
                String all = there < k ? line : "a".repeat(k - 1) + "b".repeat(there - k + 1);
                Checks.edits("s/a/b/" + k, alone + "\n", line);
                StreamForge forge = Checks.edits("s/a/b/g" + k, all + "\n", line);
                Checks.answers("replacements", Math.max(0, there - k + 1), () -> forge.ran(4));
            }
        }
    }

    private static void beginningsAndEnds() {
        Checks.edits("s/^a/b/g", "baa\n", "aaa");
        Checks.edits("s/a$/b/g", "aab\n", "aaa");
        Checks.edits("s/^a*/b/g", "bba\n", "aba");
        Checks.edits("s/^/x/g", "xab\n", "ab");
        Checks.edits("s/$/x/g", "abx\n", "ab");
        Checks.edits("s/^/x/2", "ab\n", "ab");
        Checks.edits("s/^//;s/^/x/", "x\n", "");
        // a 10 begins nothing and ends nothing
        Checks.edits("N;s/^/>/g;s/$/</g", ">a\nb<\n", "a", "b");
        Checks.edits("N;s/^b/x/;s/a$/x/", "a\nb\n", "a", "b");
    }

    private static void emptyMatches() {
        Checks.edits("s//-/g", "-a-b-\n", "ab");
        Checks.edits("s/x*/-/g", "-a-b-\n-\n", "ab", "");
        Checks.edits("s/x*/-/", "-ab\n", "ab");
        Checks.edits("N;s//-/g", "-a-\n-b-\n", "a", "b");
        Checks.edits("s/\\(\\)/<\\1>/g", "<>a<>\n", "a");
    }

    private static void emptyMatchesBehindOthers() {
        // the empty match at the end of xx does not count
        Checks.edits("s/x*/-/g", "-b-a-c-\n", "baxxc");
        Checks.edits("s/x*/-/g", "-\n", "xx");
        Checks.edits("s/x*/-/g", "-a-\n", "xa");
        Checks.edits("s/x*/-/g", "-a-\n", "ax");
        Checks.edits("s/x*/-/g", "-a-b-\n", "xaxbx");
        Checks.edits("s/b*$/x/g", "ax\n", "abb");
        Checks.edits("s/b*$/x/g", "ax\n", "a");
        // nor does it hide a match that is not empty behind it
        Checks.edits("s/a*\\(b*\\)/<&>/g", "<ab><ab>\n", "abab");
        Checks.edits("s/x*y*/-/g", "-a-\n", "xyaxy");
    }

    private static void emptyMatchesAreCounted() {
        Checks.edits("s/x*/-/1", "-baxxc\n", "baxxc");
        Checks.edits("s/x*/-/2", "b-axxc\n", "baxxc");
        Checks.edits("s/x*/-/3", "ba-c\n", "baxxc");
        Checks.edits("s/x*/-/4", "baxxc-\n", "baxxc");
        Checks.edits("s/x*/-/5", "baxxc\n", "baxxc");
        Checks.edits("s/x*/-/3g", "ba-c-\n", "baxxc");
        StreamForge forge = Checks.edits("s/x*/-/g", "-b-a-c-\n", "baxxc");
        Checks.answers("replacements", 4, () -> forge.ran(4));
    }

    private static void prints() {
        Checks.edits("s/a/b/p", "b\nb\nc\n", "a", "c");
        Checks.edits("s/a/b/gp", "bb\nbb\n", "aa");
        Checks.edits("s/a/b/2p", "ab\nab\na\n", "aa", "a");
        Checks.edits("s/a/a/p", "a\na\n", "a");
        Checks.edits("s/a/b\\nc/p;d", "b\nc\n", "a");
    }

    private static void nothingReplaced() {
        StreamForge forge = Checks.edits("s/b/x/p;s/a/y/2p;t;s/$/!/", "a!\n", "a");
        Checks.answers("replacements", 1, () -> forge.ran(4));
    }

    private static void longSpaces() {
        StreamForge each = Checks.edits("s/.*/&&&&&&/;s/x*//g", TEN.repeat(6) + "\n", TEN);
        Checks.answers("a replacement at each place of 60 characters", 62, () -> each.ran(4));
        StreamForge all = Checks.edits("s/.*/&&&&&&/;s/././g", ".".repeat(60) + "\n", TEN);
        Checks.answers("each of 60 characters", 61, () -> all.ran(4));
        Checks.edits("s/.*/&&&&&&/;s/9$/x/", TEN.repeat(6).substring(0, 59) + "x\n", TEN);
    }

    private static void roomOfTheSpace() {
        String most = TEN.repeat(5) + "123456";
        Checks.edits("s/^/" + most + "/", most + "abc\n", "abc");
        Checks.edits("s/^/" + most + "/", most + "abcd\n", "abcd");
        StreamForge forge = Checks.breaks("s/a/b/;s/c/" + most + "/;p", Checks.NO_ROOM, "", "abcdef");
        Checks.equal("the space stays", Checks.space(forge), "bbcdef");
        Checks.counts("an s without room", forge, 0, 1, 2, 1, 1);
        // with the character behind the match, with &, with a group, with a \n, with an escaped one
        Checks.edits("s/.*/&&&&&&/", TEN.repeat(6) + "\n", TEN);
        Checks.breaks("s/.*/&&&&&&x/", Checks.NO_ROOM, "", TEN);
        Checks.breaks("s/.*/&&&&&&&/", Checks.NO_ROOM, "", TEN);
        Checks.edits("s/\\(.*\\)/\\1\\1\\1\\1\\1\\1/", TEN.repeat(6) + "\n", TEN);
        Checks.breaks("s/\\(.*\\)./\\1\\1\\1\\1\\1\\1/", Checks.NO_ROOM, "", TEN + "0a");
        Checks.breaks("s/.*/&&&&&&\\n/", Checks.NO_ROOM, "", TEN);
        Checks.breaks("s/.*/&&&&&&\\//", Checks.NO_ROOM, "", TEN);
        // what the matches take away makes room
        Checks.edits("s/.*/&&&&&&/;s/01/x/;s/9/yz/", "x2345678yz" + TEN.repeat(5) + "\n", TEN);
        Checks.breaks("s/.*/&&&&&&/;s/9/yz/", Checks.NO_ROOM, "", TEN);
    }

    private static void roomOfTheOutput() {
        String line = "abcdefghijklmnopqrstuvwx";
        String[] lines = new String[12];
        Arrays.fill(lines, line);
        String told = line + "\n";
        String changed = "_bcdefghijklmnopqrstuvwx";
        Checks.edits("$!p;$s/a/_/p", told.repeat(22) + (changed + "\n").repeat(2), lines);
        StreamForge full = Checks.breaks("p;$s/a/_/p", Checks.NO_ROOM, told.repeat(23) + changed + "\n", lines);
        Checks.equal("the p of the s has come out", Checks.space(full), changed);
        Checks.answers("replacements", 1, () -> full.ran(4));
        StreamForge forge = Checks.breaks("p;$s/a/__/p", Checks.NO_ROOM, told.repeat(23), lines);
        Checks.equal("nothing is replaced", Checks.space(forge), line);
        Checks.answers("no replacements", 0, () -> forge.ran(4));
    }
}
