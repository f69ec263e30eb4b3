import java.util.Random;

/** Calls in any order with any arguments throw nothing but what the document names for them. */
public final class AnyCallsTest {
    private static final String[] PARTS = {
        "p", "d", "D", "N", "n", "G", "H", "x", "h", "g", "P", "=", "q", ";", ";", "\n", " ", "{", "}", "!", ",", "1",
        "2", "$", "/a/", "/b*$/", ":a", ":b", "ba", "ta", "b", "t", "s/a/b/g", "s/\\(.*\\)\\(b\\)/\\2&\\1/p",
        "s/x*/-\\n/2", "y/ab/ba/", "a text\n", "i x\n", "c y\n", "[", "]", "\\", "\\(", "\\)", "*", "^", "/", "s/", "&"
    };
    private static final int[] NUMBERS = {
        -1, 0, 1, 2, 3, 4, 5, 7, 8, 9, 10, 11, 12, 21, 22, 39, 40, 69, 70, 99, 100, 159, 160, 599, 600,
        Integer.MIN_VALUE, Integer.MAX_VALUE
    };

    private final Random random = new Random(512);
    private StreamForge forge;

    public static void main(String[] args) {
        AnyCallsTest test = new AnyCallsTest();
        for (int turn = 0; turn < 400; turn++) {
            test.forge = new StreamForge();
            for (int call = 0; call < 512; call++) {
                test.call();
            }
        }
        for (int turn = 0; turn < 20000; turn++) {
            test.cutWhereRefused();
        }
        Checks.end();
    }

    private void call() {
        int k = number();
        int j = number();
        int what = number();
        long w = random.nextInt(3) == 0 ? random.nextLong() : Checks.word(part());
        long v = random.nextInt(3) == 0 ? random.nextLong() : Checks.word(part());
        switch (random.nextInt(14)) {
            case 0 -> allowed("script", () -> forge.script(w), "IllegalArgument", "IllegalState");
            case 1 -> allowed("clear", () -> forge.clear(random.nextInt(3)), "IllegalArgument");
            case 2, 3 -> allowed("parse", () -> forge.parse(), "IllegalArgument");
            case 4 -> allowed("where", () -> forge.where());
            case 5 -> allowed("line", () -> forge.line(w, v), "IllegalArgument", "IllegalState");
            case 6 -> allowed("more", () -> forge.more(w), "IllegalArgument", "IllegalState");
            case 7, 8 -> allowed("run", () -> forge.run(), "IllegalState", "IndexOutOfBounds", "Arithmetic");
            case 9 -> allowed("out", () -> forge.out(k), "IndexOutOfBounds");
            case 10 -> allowed("ran", () -> forge.ran(what), "IllegalArgument");
            case 11 -> allowed("match", () -> forge.match(random.nextInt(4), random.nextInt(4), random.nextInt(9)),
                    "IllegalArgument", "IndexOutOfBounds", "IllegalState");
            case 12 -> allowed("match", () -> forge.match(k, j, what),
                    "IllegalArgument", "IndexOutOfBounds", "IllegalState");
            default -> allowed("count", () -> forge.count(what), "IllegalArgument");
        }
    }

    private int number() {
        return NUMBERS[random.nextInt(NUMBERS.length)];
    }

    private String part() {
        String part = PARTS[random.nextInt(PARTS.length)];
        return part.substring(0, Math.min(8, part.length()));
    }

    private static void allowed(String what, Checks.Call call, String... names) {
        String thrown = "";
        try {
            call.answer();
        } catch (RuntimeException e) {
            thrown = e.getClass().getSimpleName().replace("Exception", "");
        }
        boolean fits = thrown.isEmpty();
        for (String name : names) {
            fits |= thrown.equals(name);
        }
        Checks.equal(what + " threw " + thrown, fits, true);
    }

    /** What stands before the place that where tells goes on to a script, or is one. */
    private void cutWhereRefused() {
        StringBuilder script = new StringBuilder();
        for (int left = 1 + random.nextInt(12); left > 0; left--) {
            script.append(PARTS[random.nextInt(PARTS.length)]);
        }
        int where = whereRefused(script.toString());
        if (where < 0) {
            return;
        }
        Checks.equal("where in " + Checks.shown(script.toString()), where <= script.length(), true);
        String before = script.substring(0, where);
        int again = whereRefused(before);
        boolean labelMissing = again >= 0 && again < where && "bt".indexOf(before.charAt(again)) >= 0;
        Checks.equal("where in " + Checks.shown(before) + " is " + again, again == -2 || again == where || labelMissing,
                true);
    }

    private static int whereRefused(String script) {
        StreamForge forge = new StreamForge();
        Checks.write(forge, script);
        try {
            forge.parse();
        } catch (IllegalArgumentException e) {
            return forge.where();
        }
        return forge.where();
    }
}
