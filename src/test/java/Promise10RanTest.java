/** Promise 10: what the latest run came to. */
public final class Promise10RanTest {
    private static final String TEN = "0123456789";

    public static void main(String[] args) {
        beforeARun();
        counts();
        spaceAndHold();
        fullSpaceAndHold();
        emptySpaceAndHold();
        afterAThrow();
        untilTheNextRun();
        wrongWhats();
        Checks.end();
    }

    private static void beforeARun() {
        StreamForge forge = Checks.parsed("p", "a");
        Checks.counts("no run", forge, 0, 0, 0, 0, 0);
        for (int what : new int[] {10, 11, 69, 100, 101, 159}) {
            Checks.answers("ran(" + what + ") before a run", -1, () -> forge.ran(what));
        }
        StreamForge refused = Checks.written("p", "a");
        Checks.refuses("run of what is not parsed", Checks.NOT_NOW, refused::run);
        Checks.counts("a refused run", refused, 0, 0, 0, 0, 0);
        Checks.answers("its space", -1, () -> refused.ran(10));
    }

    private static void counts() {
        Checks.counts("D and N", Checks.edits("s/a/b/g;$!N;P;D", "bb\nc\nb\n", "aa", "c", "a"), 7, 3, 12, 3, 3);
        Checks.counts("n and q", Checks.edits(":x;2q;n;bx", "1\n2\n", "1", "2", "3"), 4, 2, 5, 1, 0);
        Checks.counts("no commands", Checks.edits("", "1\n2\n3\n", "1", "2", "3"), 6, 3, 0, 3, 0);
        Checks.counts("a D that begins a cycle", Checks.edits("s/x/\\n/;D", "", "axb"), 0, 1, 4, 2, 1);
        Checks.counts("a D that is a d", Checks.edits("D", "", "a", "b"), 0, 2, 2, 2, 0);
        Checks.counts("several s", Checks.edits("s/a/b/g;s/b/c/2;s/x/y/", "bcb\n", "aba"), 4, 1, 3, 1, 3);
    }

    private static void spaceAndHold() {
        StreamForge forge = Checks.edits("h;s/$/!/;G", "ab!\nab\n", "ab");
        int[] space = {'a', 'b', '!', 10, 'a', 'b', -1, -1};
        for (int k = 0; k < space.length; k++) {
            int asked = k;
            Checks.answers("ran(10 + " + k + ")", space[k], () -> forge.ran(10 + asked));
        }
        int[] hold = {'a', 'b', -1, -1};
        for (int k = 0; k < hold.length; k++) {
            int asked = k;
            Checks.answers("ran(100 + " + k + ")", hold[k], () -> forge.ran(100 + asked));
        }
    }

    private static void fullSpaceAndHold() {
        StreamForge full = Checks.edits("s/.*/&&&&&&/;h;y/9/x/", TEN.repeat(6).replace('9', 'x') + "\n", TEN);
        Checks.answers("the first of a full space", '0', () -> full.ran(10));
        Checks.answers("the last of a full space", 'x', () -> full.ran(69));
        Checks.answers("the first of a full hold", '0', () -> full.ran(100));
        Checks.answers("the last of a full hold", '9', () -> full.ran(159));
        StreamForge nearly = Checks.ran("s/.*/&&&&&&/;s/0//;h", TEN);
        Checks.answers("the 59th of a space", '9', () -> nearly.ran(68));
        Checks.answers("no 60th of a space", -1, () -> nearly.ran(69));
        Checks.answers("the 59th of a hold", '9', () -> nearly.ran(158));
        Checks.answers("no 60th of a hold", -1, () -> nearly.ran(159));
    }

    private static void emptySpaceAndHold() {
        StreamForge forge = Checks.ran("s/.*/&&&/;h", TEN);
        forge.clear(1);
        forge.run();
        Checks.answers("space of a run without lines", -1, () -> forge.ran(10));
        Checks.answers("hold of a run without lines", -1, () -> forge.ran(100));
        StreamForge emptied = Checks.ran("s/.*//", "abc");
        Checks.answers("a space that was emptied", -1, () -> emptied.ran(10));
        Checks.answers("a hold that was not filled", -1, () -> emptied.ran(100));
    }

    private static void afterAThrow() {
        StreamForge forge = Checks.breaks("h;s/a/bb/;G;G;H;H;H;H", Checks.NO_ROOM, "", "aaaa", "c");
        Checks.equal("space", Checks.space(forge), "bbaaa\naaaa\naaaa");
        Checks.equal("hold", Checks.hold(forge), "aaaa" + "\nbbaaa\naaaa\naaaa".repeat(3));
        Checks.counts("a run without room", forge, 0, 1, 8, 1, 1);
        StreamForge endless = Checks.breaks("p;x;:a;ba", Checks.TOO_MANY, "b\n", "b");
        Checks.equal("space", Checks.space(endless), "");
        Checks.equal("hold", Checks.hold(endless), "b");
        Checks.counts("a run without end", endless, 2, 1, 200, 1, 0);
    }

    private static void untilTheNextRun() {
        StreamForge forge = Checks.ran("s/a/b/;h", "a");
        forge.clear(0);
        forge.clear(1);
        Checks.write(forge, "d;k");
        Checks.refuses("parse", Checks.WRONG, forge::parse);
        Checks.counts("the latest run", forge, 2, 1, 2, 1, 1);
        forge.clear(0);
        forge.parse();
        forge.line('c', 0);
        Checks.counts("the latest run", forge, 2, 1, 2, 1, 1);
        Checks.equal("its space", Checks.space(forge), "b");
        Checks.equal("its hold", Checks.hold(forge), "b");
        forge.run();
        Checks.counts("the next run", forge, 2, 1, 0, 1, 0);
        Checks.equal("its space", Checks.space(forge), "c");
        Checks.equal("its hold", Checks.hold(forge), "");
    }

    private static void wrongWhats() {
        for (int wrong : new int[] {-1, 5, 6, 9, 70, 71, 99, 160, 161, -90, Integer.MAX_VALUE, Integer.MIN_VALUE}) {
            Checks.refuses("ran(" + wrong + ") before a run", Checks.WRONG, () -> new StreamForge().ran(wrong));
            Checks.leavesAll("ran(" + wrong + ")", Checks.WRONG,
                    () -> Checks.ran("s/a/b/", "a", "c"), forge -> forge.ran(wrong));
        }
    }
}
