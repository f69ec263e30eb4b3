/** Promise 6: a line of the characters of two words. */
public final class Promise06LineTest {
    public static void main(String[] args) {
        bytesComeInOrder();
        everyByteAtEveryPlace();
        wrongBytesAmongGoodOnes();
        atMostTwelve();
        Checks.end();
    }

    private static void bytesComeInOrder() {
        StreamForge forge = Checks.parsed("");
        Checks.answers("an empty line", 1, () -> forge.line(0, 0));
        Checks.answers("a line of both", 2, () -> forge.line(Checks.word("abcdefgh"), Checks.word("ijklmnop")));
        Checks.answers("a line of the second word", 3, () -> forge.line(0, Checks.word("xy")));
        Checks.answers("zeros left out", 4, () -> forge.line(0x6100006200000000L, 0x0000000000630000L));
        Checks.answers("the edges 32 and 126", 5, () -> forge.line(0x207EL, 0));
        int[] lengths = {0, 16, 2, 3, 2, 0};
        for (int j = 0; j < lengths.length; j++) {
            int asked = j;
            Checks.answers("characters of line " + j, lengths[j], () -> forge.count(10 + asked));
        }
        forge.run();
        Checks.equal("the lines", Checks.output(forge), "\nabcdefghijklmnop\nxy\nabc\n ~\n");
    }

    private static void everyByteAtEveryPlace() {
        for (int b = 1; b <= 255; b++) {
            StreamForge forge = new StreamForge();
            boolean good = b >= 32 && b <= 126;
            for (int place = 0; place < 8; place++) {
                long w = (long) b << (8 * place);
                String what = "line of byte " + b + " at place " + place;
                if (good && place < 6) {
                    Checks.answers(what, 2 * place + 1, () -> forge.line(w, 0));
                    Checks.answers(what, 2 * place + 2, () -> forge.line(0, w));
                } else {
                    Class<? extends RuntimeException> due = good ? Checks.NOT_NOW : Checks.WRONG;
                    Checks.refuses(what, due, () -> forge.line(w, 0));
                    Checks.refuses(what, due, () -> forge.line(0, w));
                }
            }
            Checks.answers("lines of byte " + b, good ? 12 : 0, () -> forge.count(1));
        }
    }

    private static void wrongBytesAmongGoodOnes() {
        long good = Checks.word("abcdefgh");
        for (int place = 0; place < 8; place++) {
            long wrong = good & ~(255L << (8 * place)) | 10L << (8 * place);
            Checks.leavesAll("a 10 in the first word", Checks.WRONG,
                    () -> Checks.ran("s/a/b/", "a"), forge -> forge.line(wrong, good));
            Checks.leavesAll("a 10 in the second word", Checks.WRONG,
                    () -> Checks.ran("s/a/b/", "a"), forge -> forge.line(good, wrong));
        }
        Checks.leavesAll("line(-1, 0)", Checks.WRONG, () -> Checks.ran("p", "a"), forge -> forge.line(-1, 0));
        Checks.leavesAll("line(0, -1)", Checks.WRONG, () -> Checks.ran("p", "a"), forge -> forge.line(0, -1));
    }

    private static StreamForge full() {
        return Checks.ran("$!d", "a", "b", "c", "d", "e", "f", "g", "h", "i", "j", "k", "l");
    }

    private static void atMostTwelve() {
        StreamForge forge = Checks.parsed("$!d", "a", "b", "c", "d", "e", "f", "g", "h", "i", "j");
        Checks.answers("the 11th", 11, () -> forge.line('k', 0));
        Checks.answers("the 12th", 12, () -> forge.line('l', 0));
        Checks.refuses("a 13th", Checks.NOT_NOW, () -> forge.line('m', 0));
        Checks.answers("lines", 12, () -> forge.count(1));
        Checks.answers("more to the 12th", 2, () -> forge.more('n'));
        forge.run();
        Checks.equal("the last line", Checks.output(forge), "ln\n");
        Checks.leavesAll("a 13th line", Checks.NOT_NOW, Promise06LineTest::full, it -> it.line('m', 'n'));
        Checks.leavesAll("a 13th, empty line", Checks.NOT_NOW, Promise06LineTest::full, it -> it.line(0, 0));
    }
}
