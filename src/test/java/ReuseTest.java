import java.util.Random;

/** One object, parsed and run over and over, answers like a new one: nothing stays from before. */
public final class ReuseTest {
    private static final String[] SCRIPTS = {
        "", "p", "s/a/b/gp2", "s/a/b/", "2,/b/!s/[^b-z]*$/<&>/p", "/[a-c]*\\(x\\)\\1\\(.\\)/,$d",
        "s/^\\(.\\)\\(.\\)/\\2\\1/g", "s/[~ -0]/_/g", "s/c*//3", "1!G;h;$!d", "H;x", "/a/,/z/=", "2,99c gone",
        "a one\na two\nN;P;D", ":a;s/a/x/;ta", "{{{{p}}}}", "1,3!{n;d}", "10,12p;s/x/y/p", ":z;n;bz",
        "$!N;s/.[^a]*//2", "y/abc/bca/;tz;:z", "a long\nG;G;G;H;H;H;H;H", "i x\n:l;bl", "/^$/q", "!p;s/$/./",
        "t;b;s/a/b/;t", "s/a/\\1/", "{p", "bx", "s/\\(a/b/", "{{{{{", "1,2", "s/[b-a]//", "y/aa/bb/",
        "s/a*b*c*//", "s/aaaaaaaaaaaaaaa//", "s/\\(a\\)\\(b\\)\\(", ":a;:a", "k"
    };
    private static final String[] LINES = {"", "a", "abc", "xxyz", "aaab x", "c0~b", "abcdefghijklmnopqrstuvwx"};

    public static void main(String[] args) {
        Random random = new Random(40);
        for (int turn = 0; turn < 300; turn++) {
            StreamForge used = new StreamForge();
            for (int time = 0; time < 12; time++) {
                String script = SCRIPTS[random.nextInt(SCRIPTS.length)];
                String[] lines = new String[random.nextInt(7)];
                for (int j = 0; j < lines.length; j++) {
                    lines[j] = LINES[random.nextInt(LINES.length)];
                }
                used.clear(0);
                used.clear(1);
                String due = told(new StreamForge(), script, lines);
                String got = told(used, script, lines);
                Checks.equal("on a used object " + Checks.shown(script), got, due);
            }
        }
        manyLongScripts();
        Checks.end();
    }

    /** Scripts with as many items as can be, again and again, so that room which leaks runs out. */
    private static void manyLongScripts() {
        StreamForge forge = new StreamForge();
        Checks.write(forge, "/aaaaaaaaaaaaab/d\n".repeat(12) + "s/b/c/");
        Checks.feed(forge, "ab", "aaaaaaaaaaaaab");
        for (int time = 0; time < 20; time++) {
            Checks.answers("parse of a long script", 13, forge::parse);
            Checks.answers("its run", 3, forge::run);
            Checks.equal("its output", Checks.output(forge), "ac\n");
        }
    }

    private static String told(StreamForge forge, String script, String[] lines) {
        Checks.write(forge, script);
        Checks.feed(forge, lines);
        StringBuilder told = new StringBuilder();
        try {
            told.append(forge.parse());
        } catch (IllegalArgumentException e) {
            return "refused at " + forge.where();
        }
        try {
            told.append(" ").append(forge.run());
        } catch (IndexOutOfBoundsException | ArithmeticException e) {
            told.append(" ").append(e.getClass().getSimpleName());
        }
        for (int what = 0; what <= 4; what++) {
            told.append(" ").append(forge.ran(what));
        }
        told.append(Checks.shown(Checks.output(forge)));
        told.append(Checks.shown(Checks.space(forge))).append(Checks.shown(Checks.hold(forge)));
        for (int k = 0; k < forge.count(2); k++) {
            for (int j = 0; j < lines.length; j++) {
                told.append(matches(forge, k, j));
            }
        }
        return told.toString();
    }

    private static String matches(StreamForge forge, int k, int j) {
        StringBuilder told = new StringBuilder();
        try {
            for (int what = 0; what < 8; what++) {
                told.append(" ").append(forge.match(k, j, what));
            }
        } catch (IllegalArgumentException e) {
            told.append(" no s");
        }
        return told.toString();
    }
}
