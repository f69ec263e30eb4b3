/** Promise 4: how many commands a script has, and what stays when it is none. */
public final class Promise04ParseTest {
    public static void main(String[] args) {
        howMany();
        theScriptStays();
        theScriptMayChange();
        theOneParsedStays();
        nothingParsedStaysNothing();
        refusedAgainAndAgain();
        Checks.end();
    }

    private static void howMany() {
        Checks.parses("", 0);
        Checks.parses("p", 1);
        Checks.parses("{}", 1);
        Checks.parses("{p}", 2);
        Checks.parses(":a;1,$!{s/a/b/;ta\n};y/a/b/;a x\ni y\nc z", 8);
        Checks.parses("d D p P n N h H g G x = q b t", 15);
    }

    private static void theScriptStays() {
        StreamForge forge = Checks.written("p;p");
        Checks.answers("parse", 2, forge::parse);
        Checks.answers("the script stays", 3, () -> forge.count(0));
        Checks.answers("parse again", 2, forge::parse);
        Checks.write(forge, ";p");
        Checks.answers("what was parsed is not changed by more script", 2, () -> forge.count(2));
        Checks.answers("parse of all of it", 3, forge::parse);
        Checks.answers("characters", 5, () -> forge.count(0));
    }

    /** What was parsed has its texts, whatever becomes of the script. */
    private static void theScriptMayChange() {
        String script = "i abc\ny/d/e/;s/f/g&/;1,/h*/a ij";
        StreamForge forge = Checks.parsed(script, "dfh");
        forge.clear(0);
        Checks.answers("run without a script", 12, forge::run);
        Checks.write(forge, "i zzz\ny/z/z/;s/z/z&/;1,/z*/a zz");
        Checks.answers("run with another script", 12, forge::run);
        Checks.equal("its output", Checks.output(forge), "abc\negfh\nij\n");
    }

    private static void theOneParsedStays() {
        StreamForge forge = Checks.parsed("s/a/b/", "ca");
        Checks.write(forge, "k");
        Checks.refuses("parse of a spoilt script", Checks.WRONG, forge::parse);
        Checks.answers("the commands stay", 1, () -> forge.count(2));
        Checks.answers("the script stays", 7, () -> forge.count(0));
        Checks.answers("the pattern stays", 1, () -> forge.match(0, 0, 0));
        Checks.answers("run of the one that stays", 3, forge::run);
        Checks.equal("its output", Checks.output(forge), "cb\n");
        forge.clear(0);
        Checks.answers("parse of an empty script", 0, forge::parse);
        Checks.answers("its run", 3, forge::run);
        Checks.equal("its output", Checks.output(forge), "ca\n");
    }

    private static void nothingParsedStaysNothing() {
        StreamForge forge = Checks.written("k", "a");
        Checks.refuses("parse", Checks.WRONG, forge::parse);
        Checks.refuses("run", Checks.NOT_NOW, forge::run);
        Checks.refuses("match", Checks.NOT_NOW, () -> forge.match(0, 0, 0));
        Checks.answers("commands", 0, () -> forge.count(2));
    }

    /** Refused ones with much in them do not touch the one that was parsed. */
    private static void refusedAgainAndAgain() {
        String script = "2,3s/\\(a*\\)b/<\\1>/gp;$!{N;y/c/d/\n};i x";
        StreamForge forge = Checks.parsed(script, "aab", "ab c", "b");
        String[] none = {"1!s/[x-z]*\\(.\\)$/\\1&/2;{{{{p}}}};y/a/b/;i zzzzz\nbz", "{p;:a;:a", "100d"};
        for (String refused : none) {
            forge.clear(0);
            Checks.write(forge, refused);
            Checks.refuses("parse of " + Checks.shown(refused), Checks.WRONG, forge::parse);
        }
        forge.clear(0);
        Checks.answers("commands", 5, () -> forge.count(2));
        Checks.write(forge, script);
        String after = Checks.allOf(forge).replaceFirst("where \\d+", "where -2");
        Checks.equal("all but where after refused parses", after,
                Checks.allOf(Checks.parsed(script, "aab", "ab c", "b")));
    }
}
