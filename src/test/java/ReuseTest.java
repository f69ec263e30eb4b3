import java.util.Random;

/** One object, parsed and run over and over, answers like a new one: nothing stays from before. */
public final class ReuseTest {
    private static final String[] SCRIPTS = {
        "", "p", "s/a/b/gp2", "s/a/b/", "2,/b/!s/[^b-z]*$/<&>/p", "/[a-c]*\\(x\\)\\1\\(.\\)/,$d",
        "s/^\\(.\\)\\(.\\)/\\2\\1/g", "s/[~ -0]/_/g", "s/c*//3", "1!G;h;$!d", "H;x", "/a/,/z/=", "2,99c gone",
        "a one\na two\nN;P;D", ":a;s/a/x/;ta", "{{{{p}}}}", "1,3!{n;d}", "10,12p;s/x/y/p", ":z;n;bz",
        "$!N;s/.[^a]*//2", "y/abc/bca/;tz;:z", "a long\nG;G;G;H;H;H;H;H", "i x\n:l;bl", "/^$/q", "!p;s/$/./",
        "t;b;s/a/b/;t", "s/a/\\1/", "{p", "bx", "s/\\(a/b/", "{{{{{", "1,2", "s/[b-a]//", "y/aa/bb/",
        "s/a*b*c*//", "s/aaaaaaaaaaaaaaa//", "s/\\(a\\)\\(b\\)\\(", ":a;:a", "k"
    };
    private static final String[] LINES = {"", "a", "abc", "xxyz", "aaab x", "c0~b", "abcdefghijklmnopqrstuvwx"};

    public static void main(String[] args) {
        Random random = new Random(40);
        for (int turn = 0; turn < 1500; turn++) {
            StreamForge used = new StreamForge();
            for (int time = random.nextInt(4); time > 0; time--) {
                use(used, any(SCRIPTS, random), anyLines(random));
            }
            String script = any(SCRIPTS, random);
            String[] lines = anyLines(random);
            StreamForge fresh = new StreamForge();
            String what = "on a used object " + Checks.shown(script);
            Checks.equal(what, use(used, script, lines), use(fresh, script, lines));
            boolean matches = random.nextBoolean();
            Checks.equal(what, all(used, matches), all(fresh, matches));
        }
        manyLongScripts();
        Checks.end();
    }

    private static String any(String[] some, Random random) {
        return some[random.nextInt(some.length)];
    }

    private static String[] anyLines(Random random) {
        String[] lines = new String[random.nextInt(7)];
        for (int j = 0; j < lines.length; j++) {
            lines[j] = any(LINES, random);
        }
        return lines;
    }

    /** Scripts with as many items as can be, again and again, so that room which leaks runs out. */
    private static void manyLongScripts() {
        StreamForge forge = new StreamForge();
        Checks.write(forge, "/aaaaaaaaaaaaab/d\n".repeat(12) + "s/b/c/");
        Checks.feed(forge, "ab", "aaaaaaaaaaaaab");
        for (int time = 0; time < 20; time++) {
            Checks.answers("parse of a long script", 13, forge::parse);
            Checks.answers("its run", 3, forge::run);
            Checks.equal("its output", Checks.output(forge), "ac\n");
        }
    }

    private static String use(StreamForge forge, String script, String[] lines) {
        forge.clear(0);
        forge.clear(1);
        Checks.write(forge, script);
        Checks.feed(forge, lines);
        String parsed = Checks.told(forge::parse) + " " + forge.where();
        // after a refused script the object runs what it parsed before, which a new one has not
        return forge.where() >= 0 ? parsed : parsed + " " + Checks.told(forge::run);
    }

    /** Of a run or of the matches as much as can be asked for in so many calls. */
    private static String all(StreamForge forge, boolean matches) {
        if (forge.where() >= 0) {
            return "";
        }
        StringBuilder told = new StringBuilder();
        if (matches) {
            for (int k = 0; k < Math.min(4, forge.count(2)); k++) {
                for (int j = 0; j < forge.count(1); j++) {
                    told.append(matches(forge, k, j));
                }
            }
            return told.toString();
        }
        for (int what = 0; what <= 4; what++) {
            told.append(" ").append(forge.ran(what));
        }
        int length = Math.min(150, forge.ran(0));
        for (int k = 0; k < length; k++) {
            told.append((char) forge.out(k));
        }
        return told.append(Checks.shown(Checks.space(forge))).append(Checks.shown(Checks.hold(forge))).toString();
    }

    private static String matches(StreamForge forge, int k, int j) {
        StringBuilder told = new StringBuilder();
        for (int what = 0; what < 8; what++) {
            int asked = what;
            told.append(" ").append(Checks.told(() -> forge.match(k, j, asked)));
        }
        return told.toString();
    }
}
