/** Promise 7: characters come to the end of the latest line. */
public final class Promise07MoreTest {
    public static void main(String[] args) {
        bytesComeInOrder();
        everyByteAtEveryPlace();
        wrongBytesAmongGoodOnes();
        withoutALine();
        room();
        roomForAWholeWord();
        Checks.end();
    }

    private static void bytesComeInOrder() {
        StreamForge forge = Checks.parsed("", "one", "");
        Checks.answers("more to an empty line", 2, () -> forge.more(Checks.word("ab")));
        Checks.answers("nothing more", 2, () -> forge.more(0));
        Checks.answers("zeros left out", 4, () -> forge.more(0x6300000000000064L));
        Checks.answers("eight more", 12, () -> forge.more(Checks.word("efghijkl")));
        Checks.answers("the line before", 3, () -> forge.count(10));
        Checks.answers("the latest line", 12, () -> forge.count(11));
        Checks.answers("another line", 3, () -> forge.line('m', 0));
        Checks.answers("more to that", 2, () -> forge.more('n'));
        forge.run();
        Checks.equal("the lines", Checks.output(forge), "one\nabcdefghijkl\nmn\n");
    }

    private static void everyByteAtEveryPlace() {
        for (int b = 1; b <= 255; b++) {
            StreamForge forge = Checks.written("", "");
            boolean good = b >= 32 && b <= 126;
            for (int place = 0; place < 8; place++) {
                long w = (long) b << (8 * place);
                String what = "more of byte " + b + " at place " + place;
                if (good) {
                    Checks.answers(what, place + 1, () -> forge.more(w));
                } else {
                    Checks.refuses(what, Checks.WRONG, () -> forge.more(w));
                }
            }
            Checks.answers("characters of byte " + b, good ? 8 : 0, () -> forge.count(10));
        }
    }

    private static void wrongBytesAmongGoodOnes() {
        for (int place = 0; place < 8; place++) {
            long wrong = Checks.word("abcdefgh") & ~(255L << (8 * place)) | 10L << (8 * place);
            Checks.leavesAll("a 10 among good bytes", Checks.WRONG,
                    () -> Checks.ran("s/a/b/", "a", "c"), forge -> forge.more(wrong));
        }
        Checks.leavesAll("more(-1)", Checks.WRONG, () -> Checks.ran("p", "a"), forge -> forge.more(-1));
    }

    private static void withoutALine() {
        Checks.leavesAll("more without a line", Checks.NOT_NOW, () -> Checks.ran("p"), forge -> forge.more('a'));
        Checks.leavesAll("nothing more without a line", Checks.NOT_NOW, () -> Checks.ran("p"), forge -> forge.more(0));
        StreamForge cleared = Checks.written("", "a");
        cleared.clear(1);
        Checks.refuses("more after clear", Checks.NOT_NOW, () -> cleared.more('a'));
    }

    private static void room() {
        String line = "abcdefghijklmnopqrstuvw";
        StreamForge forge = Checks.parsed("", line);
        Checks.answers("23 characters", 23, () -> forge.count(10));
        Checks.refuses("two more", Checks.NOT_NOW, () -> forge.more(Checks.word("xy")));
        Checks.answers("none of them has come", 23, () -> forge.count(10));
        Checks.answers("the 24th", 24, () -> forge.more('x'));
        Checks.answers("nothing to a full line", 24, () -> forge.more(0));
        Checks.refuses("the 25th", Checks.NOT_NOW, () -> forge.more('y'));
        Checks.leavesAll("the 25th", Checks.NOT_NOW, () -> Checks.ran("p", "a", line + "x"), full -> full.more('y'));
        Checks.answers("a new line behind a full one", 2, () -> forge.line('z', 0));
        Checks.answers("more to the new one", 2, () -> forge.more('z'));
        forge.run();
        Checks.equal("the lines", Checks.output(forge), line + "x\nzz\n");
    }

    private static void roomForAWholeWord() {
        StreamForge fits = Checks.written("", "abcdefghijklmnop");
        Checks.answers("eight to 16", 24, () -> fits.more(Checks.word("qrstuvwx")));
        StreamForge tooMany = Checks.written("", "abcdefghijklmnopq");
        Checks.refuses("eight to 17", Checks.NOT_NOW, () -> tooMany.more(Checks.word("rstuvwxy")));
        Checks.answers("none of them has come", 17, () -> tooMany.count(10));
        Checks.answers("seven to 17", 24, () -> tooMany.more(0x7273740075767778L));
    }
}
