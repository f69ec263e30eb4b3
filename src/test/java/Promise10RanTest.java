/** Promise 10: what the latest run came to. */
public final class Promise10RanTest {
    public static void main(String[] args) {
        beforeARun();
        counts();
        spaceAndHold();
        afterAThrow();
        Checks.end();
    }

    private static void beforeARun() {
        StreamForge forge = Checks.parsed("p", "a");
        for (int what = 0; what <= 4; what++) {
            int asked = what;
            Checks.answers("ran(" + what + ") before a run", 0, () -> forge.ran(asked));
        }
        for (int what : new int[] {10, 69, 100, 159}) {
            Checks.answers("ran(" + what + ") before a run", -1, () -> forge.ran(what));
        }
        for (int wrong : new int[] {-1, 5, 9, 70, 99, 160, Integer.MAX_VALUE, Integer.MIN_VALUE}) {
            Checks.refuses("ran(" + wrong + ")", IllegalArgumentException.class, () -> forge.ran(wrong));
        }
    }

    private static void counts() {
        StreamForge forge = Checks.edits("s/a/b/g;$!N;P;D", "bb\nc\nb\n", "aa", "c", "a");
        expect(forge, 7, 3, 12, 3, 3);
        StreamForge quit = Checks.edits(":x;2q;n;bx", "1\n2\n", "1", "2", "3");
        expect(quit, 4, 2, 5, 1, 0);
        quit.clear(0);
        quit.parse();
        Checks.answers("a parse changes nothing", 5, () -> quit.ran(2));
        quit.run();
        expect(quit, 6, 3, 0, 3, 0);
    }

    private static void expect(StreamForge forge, int... due) {
        for (int what = 0; what < due.length; what++) {
            int asked = what;
            Checks.answers("ran(" + what + ")", due[what], () -> forge.ran(asked));
        }
    }

    private static void spaceAndHold() {
        StreamForge forge = Checks.edits("h;s/$/!/;G", "ab!\nab\n", "ab");
        Checks.equal("space", Checks.space(forge), "ab!\nab");
        Checks.equal("hold", Checks.hold(forge), "ab");
        Checks.answers("behind the space", -1, () -> forge.ran(16));
        Checks.answers("behind the hold", -1, () -> forge.ran(102));
        StreamForge full = Checks.edits("s/.*/&&&/;h", "12345678901234567890".repeat(3) + "\n", "12345678901234567890");
        Checks.answers("the last of a full space", '0', () -> full.ran(69));
        Checks.answers("the last of a full hold", '0', () -> full.ran(159));
        full.clear(1);
        full.run();
        Checks.answers("space of a run without lines", -1, () -> full.ran(10));
        Checks.answers("hold of a run without lines", -1, () -> full.ran(100));
    }

    private static void afterAThrow() {
        StreamForge forge = Checks.breaks("h;s/a/bb/;G;G;H;H;H;H", IndexOutOfBoundsException.class, "", "aaaa", "c");
        Checks.equal("space", Checks.space(forge), "bbaaa\naaaa\naaaa");
        Checks.equal("hold", Checks.hold(forge), "aaaa" + "\nbbaaa\naaaa\naaaa".repeat(3));
        expect(forge, 0, 1, 8, 1, 1);
    }
}
