/** Promise 2: bytes come to the script, the highest first, zeros left out. */
public final class Promise02ScriptTest {
    public static void main(String[] args) {
        bytesComeInOrder();
        wrongBytes();
        room();
        Checks.end();
    }

    private static void bytesComeInOrder() {
        StreamForge forge = new StreamForge();
        Checks.answers("script(0)", 0, () -> forge.script(0));
        Checks.answers("bytes with zeros between", 3, () -> forge.script(0x6900200000007800L));
        Checks.answers("eight bytes", 11, () -> forge.script(Checks.word("yz\n=\np;p")));
        Checks.answers("parse()", 4, forge::parse);
        Checks.feed(forge, "L");
        Checks.answers("run()", 12, forge::run);
        Checks.equal("output", Checks.output(forge), "xyz\n1\nL\nL\nL\n");
    }

    private static void wrongBytes() {
        StreamForge forge = new StreamForge();
        forge.script(Checks.word("p"));
        for (int wrong : new int[] {1, 9, 11, 13, 31, 127, 128, 255}) {
            for (int place = 0; place < 8; place++) {
                long w = (long) wrong << (8 * place);
                Checks.refuses("script(" + w + ")", IllegalArgumentException.class, () -> forge.script(w));
            }
        }
        Checks.refuses("a wrong byte behind good ones", IllegalArgumentException.class,
                () -> forge.script(Checks.word("p;p\t")));
        Checks.answers("nothing has come", 1, () -> forge.count(0));
        for (int good : new int[] {10, 32, 126}) {
            int due = forge.count(0) + 1;
            Checks.answers("script(" + good + ")", due, () -> forge.script(good));
        }
    }

    private static void room() {
        StreamForge forge = new StreamForge();
        for (int i = 0; i < 29; i++) {
            forge.script(Checks.word(";;;;;;;;"));
        }
        Checks.answers("up to 239", 239, () -> forge.script(Checks.word(";;;;;;;")));
        Checks.refuses("241 characters", IllegalStateException.class, () -> forge.script(Checks.word("pp")));
        Checks.answers("nothing has come", 239, () -> forge.count(0));
        Checks.answers("the 240th", 240, () -> forge.script(Checks.word("p")));
        Checks.answers("nothing to a full script", 240, () -> forge.script(0));
        Checks.refuses("the 241st", IllegalStateException.class, () -> forge.script(Checks.word("p")));
        Checks.refuses("a wrong byte to a full script", IllegalArgumentException.class, () -> forge.script(9));
        Checks.answers("parse of a full script", 1, forge::parse);
    }
}
