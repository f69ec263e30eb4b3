import java.util.List;
import java.util.function.Supplier;

/** Calls that no state allows leave all as it was, in whatever state the object is. */
public final class RefusedCallsTest {
    private static final String[] TWELVE = {
        "a", "b", "c", "d", "e", "f", "g", "h", "i", "j", "k", "abcdefghijklmnopqrstuvwx"
    };

    public static void main(String[] args) {
        List<Supplier<StreamForge>> states = List.of(
                StreamForge::new,
                () -> Checks.written("s/a/b/;k", "a", "b"),
                () -> Checks.parsed("s/a/b/", "a", ""),
                () -> Checks.ran("h;s/a/b/p", "a", "ca"),
                () -> Checks.ran("p;s/a/&&/;:x;bx", "a"),
                () -> Checks.ran("s/a/b/;a x\nG;s/.*/&&&&/;G;G", "aaaaaa"),
                RefusedCallsTest::afterARefusedParse,
                RefusedCallsTest::cleared,
                () -> Checks.ran(" ".repeat(238) + "$p", TWELVE));
        for (Supplier<StreamForge> state : states) {
            wrongTexts(state);
            wrongNumbers(state);
        }
        fullObjects();
        parsesChangeOnlyWhere();
        Checks.end();
    }

    private static StreamForge afterARefusedParse() {
        StreamForge forge = Checks.ran("s/a/b/", "a");
        Checks.write(forge, ";{p");
        Checks.told(forge::parse);
        return forge;
    }

    private static StreamForge cleared() {
        StreamForge forge = Checks.ran("h;s/a/b/", "a");
        forge.clear(0);
        forge.clear(1);
        return forge;
    }

    private static void wrongTexts(Supplier<StreamForge> state) {
        long wrong = Checks.word("p;p\tp");
        long newline = Checks.word("p\np");
        Checks.leavesAll("script with a 9", Checks.WRONG, state, forge -> forge.script(wrong));
        Checks.leavesAll("script with a 127", Checks.WRONG, state, forge -> forge.script(127));
        Checks.leavesAll("line with a 9", Checks.WRONG, state, forge -> forge.line(wrong, 0));
        Checks.leavesAll("line with a 10", Checks.WRONG, state, forge -> forge.line(0, newline));
        Checks.leavesAll("more with a 9", Checks.WRONG, state, forge -> forge.more(wrong));
        Checks.leavesAll("more with a 10", Checks.WRONG, state, forge -> forge.more(newline));
    }

    private static void wrongNumbers(Supplier<StreamForge> state) {
        Checks.leavesAll("clear(-1)", Checks.WRONG, state, forge -> forge.clear(-1));
        Checks.leavesAll("clear(2)", Checks.WRONG, state, forge -> forge.clear(2));
        Checks.leavesAll("ran(5)", Checks.WRONG, state, forge -> forge.ran(5));
        Checks.leavesAll("ran(9)", Checks.WRONG, state, forge -> forge.ran(9));
        Checks.leavesAll("ran(70)", Checks.WRONG, state, forge -> forge.ran(70));
        Checks.leavesAll("ran(99)", Checks.WRONG, state, forge -> forge.ran(99));
        Checks.leavesAll("ran(160)", Checks.WRONG, state, forge -> forge.ran(160));
        Checks.leavesAll("out(-1)", Checks.NO_SUCH, state, forge -> forge.out(-1));
        Checks.leavesAll("out(600)", Checks.NO_SUCH, state, forge -> forge.out(600));
        Checks.leavesAll("count(3)", Checks.WRONG, state, forge -> forge.count(3));
        Checks.leavesAll("count(9)", Checks.WRONG, state, forge -> forge.count(9));
        Checks.leavesAll("match(0, 0, -1)", Checks.WRONG, state, forge -> forge.match(0, 0, -1));
        Checks.leavesAll("match(0, 0, 8)", Checks.WRONG, state, forge -> forge.match(0, 0, 8));
    }

    private static void fullObjects() {
        Supplier<StreamForge> full = () -> Checks.ran("s/a/b/" + " ".repeat(234), TWELVE);
        Checks.leavesAll("a 241st character", Checks.NOT_NOW, full, forge -> forge.script('p'));
        Checks.leavesAll("a 13th line", Checks.NOT_NOW, full, forge -> forge.line('p', 0));
        Checks.leavesAll("a 25th character", Checks.NOT_NOW, full, forge -> forge.more('p'));
        Checks.leavesAll("no command 1", Checks.NO_SUCH, full, forge -> forge.match(1, 0, 0));
        Checks.leavesAll("no line 12", Checks.NO_SUCH, full, forge -> forge.match(0, 12, 0));
    }

    /** A refused parse has changed where; a parse of what is a script then tells -2 again. */
    private static void parsesChangeOnlyWhere() {
        StreamForge forge = Checks.ran("h;s/a/b/p", "a", "ca");
        forge.clear(0);
        Checks.write(forge, "{");
        String before = tellingAfter(-2, Checks.ran("h;s/a/b/p", "a", "ca"));
        Checks.refuses("parse", Checks.WRONG, forge::parse);
        forge.clear(0);
        Checks.write(forge, "h;s/a/b/p");
        Checks.equal("all after a refused parse", tellingAfter(1, forge), before);
    }

    private static String tellingAfter(int where, StreamForge forge) {
        Checks.answers("where", where, forge::where);
        return Checks.allOf(forge).replaceFirst("where " + where, "");
    }
}
