/** Promise 2: bytes come to the script, the highest first, zeros left out. */
public final class Promise02ScriptTest {
    public static void main(String[] args) {
        bytesComeInOrder();
        zerosAreLeftOut();
        everyByteAtEveryPlace();
        oneWrongByteIsEnough();
        room();
        roomForAWholeWord();
        Checks.end();
    }

    private static void bytesComeInOrder() {
        StreamForge forge = new StreamForge();
        Checks.answers("three bytes", 3, () -> forge.script(Checks.word("i x")));
        Checks.answers("eight bytes", 11, () -> forge.script(Checks.word("yz\n=\np;p")));
        Checks.answers("parse()", 4, forge::parse);
        Checks.feed(forge, "L");
        Checks.answers("run()", 12, forge::run);
        Checks.equal("output", Checks.output(forge), "xyz\n1\nL\nL\nL\n");
    }

    private static void zerosAreLeftOut() {
        StreamForge forge = new StreamForge();
        Checks.answers("no byte", 0, () -> forge.script(0));
        Checks.answers("zeros between", 3, () -> forge.script(0x6900200000007800L));
        Checks.answers("no byte", 3, () -> forge.script(0));
        Checks.answers("zeros behind", 4, () -> forge.script(0x7900000000000000L));
        Checks.answers("zeros before", 5, () -> forge.script(0x7AL));
        forge.parse();
        Checks.feed(forge, "L");
        forge.run();
        Checks.equal("output", Checks.output(forge), "xyz\nL\n");
    }

    private static void everyByteAtEveryPlace() {
        for (int b = 1; b <= 255; b++) {
            StreamForge forge = new StreamForge();
            boolean good = b == 10 || (b >= 32 && b <= 126);
            for (int place = 0; place < 8; place++) {
                long w = (long) b << (8 * place);
                String what = "script of byte " + b + " at place " + place;
                if (good) {
                    Checks.answers(what, place + 1, () -> forge.script(w));
                } else {
                    Checks.refuses(what, Checks.WRONG, () -> forge.script(w));
                }
            }
            Checks.answers("characters of byte " + b, good ? 8 : 0, () -> forge.count(0));
        }
    }

    private static void oneWrongByteIsEnough() {
        for (int place = 0; place < 8; place++) {
            long wrong = Checks.word("p;p;p;p;") ^ (long) 0x80 << (8 * place);
            Checks.leavesAll("a wrong byte among good ones", Checks.WRONG,
                    () -> Checks.ran("s/a/b/", "a"), forge -> forge.script(wrong));
        }
        for (long wrong : new long[] {-1, Long.MIN_VALUE, Long.MAX_VALUE}) {
            Checks.leavesAll("script(" + wrong + ")", Checks.WRONG,
                    () -> Checks.ran("s/a/b/", "a"), forge -> forge.script(wrong));
        }
    }

    private static void room() {
        StreamForge forge = Checks.written(";".repeat(239));
        Checks.answers("239 characters", 239, () -> forge.count(0));
        Checks.refuses("two more", Checks.NOT_NOW, () -> forge.script(Checks.word("pp")));
        Checks.answers("nothing has come", 239, () -> forge.count(0));
        Checks.answers("the 240th", 240, () -> forge.script(Checks.word("p")));
        Checks.answers("nothing to a full script", 240, () -> forge.script(0));
        Checks.refuses("the 241st", Checks.NOT_NOW, () -> forge.script(Checks.word("p")));
        Checks.refuses("eight more", Checks.NOT_NOW, () -> forge.script(Checks.word("pppppppp")));
        Checks.answers("nothing has come", 240, () -> forge.count(0));
        Checks.answers("parse of a full script", 1, forge::parse);
        Checks.leavesAll("the 241st character", Checks.NOT_NOW,
                () -> Checks.ran(" ".repeat(239) + "p", "a"), full -> full.script('p'));
    }

    private static void roomForAWholeWord() {
        StreamForge fits = Checks.written(";".repeat(232));
        Checks.answers("eight to 232", 240, () -> fits.script(Checks.word("p;p;p;p;")));
        Checks.answers("their commands", 4, fits::parse);
        StreamForge tooMany = Checks.written(";".repeat(233));
        Checks.refuses("eight to 233", Checks.NOT_NOW, () -> tooMany.script(Checks.word("p;p;p;p;")));
        Checks.answers("none of them has come", 233, () -> tooMany.count(0));
        Checks.answers("no commands", 0, tooMany::parse);
        Checks.answers("seven to 233", 240, () -> tooMany.script(0x703B703B703B7000L));
    }
}
