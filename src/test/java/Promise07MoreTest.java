/** Promise 7: characters come to the end of the latest line. */
public final class Promise07MoreTest {
    public static void main(String[] args) {
        StreamForge forge = Checks.parsed("");
        Checks.refuses("more without a line", IllegalStateException.class, () -> forge.more(65));
        Checks.refuses("a wrong byte without a line", IllegalArgumentException.class, () -> forge.more(10));
        forge.line(Checks.word("one"), 0);
        forge.line(0, 0);
        Checks.answers("more to an empty line", 2, () -> forge.more(Checks.word("ab")));
        Checks.answers("nothing more", 2, () -> forge.more(0));
        Checks.answers("zeros left out", 4, () -> forge.more(0x6300000000000064L));
        Checks.answers("eight more", 12, () -> forge.more(Checks.word("efghijkl")));
        Checks.answers("eight more", 20, () -> forge.more(Checks.word("mnopqrst")));
        Checks.refuses("25 characters", IllegalStateException.class, () -> forge.more(Checks.word("uvwxy")));
        Checks.answers("nothing has come", 20, () -> forge.count(11));
        Checks.answers("24 characters", 24, () -> forge.more(Checks.word("uvwx")));
        Checks.refuses("one to a full line", IllegalStateException.class, () -> forge.more(65));
        Checks.answers("none to a full line", 24, () -> forge.more(0));
        for (int wrong : new int[] {1, 9, 10, 31, 127, 255}) {
            Checks.refuses("more(" + wrong + ")", IllegalArgumentException.class, () -> forge.more(wrong));
        }
        forge.run();
        Checks.equal("the lines", Checks.output(forge), "one\nabcdefghijklmnopqrstuvwx\n");
        Checks.end();
    }
}
