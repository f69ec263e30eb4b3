import java.util.ArrayList;
import java.util.List;

/** What the tests share: texts as calls, and the count of answers that are not as due. */
final class Checks {
    interface Call {
        int answer();
    }

    private static int asDue = 0;
    private static int wrong = 0;

    private Checks() {
    }

    static void equal(String what, Object got, Object due) {
        if (due.equals(got)) {
            asDue++;
        } else {
            wrong++;
            System.out.println(what + " answered " + got + ", due is " + due);
        }
    }

    static void answers(String what, int due, Call call) {
        equal(what, told(call), String.valueOf(due));
    }

    static void refuses(String what, Class<? extends RuntimeException> due, Call call) {
        equal(what, told(call), due.getSimpleName());
    }

    private static String told(Call call) {
        try {
            return String.valueOf(call.answer());
        } catch (RuntimeException e) {
            return e.getClass().getSimpleName();
        }
    }

    /** Ends a test: with exit code 1 if an answer was not as due. */
    static void end() {
        System.out.println(asDue + " answers as due, " + wrong + " not");
        System.exit(wrong == 0 && asDue > 0 ? 0 : 1);
    }

    /** Up to eight characters as the bytes of a long. */
    static long word(String text) {
        long w = 0;
        for (int i = 0; i < text.length(); i++) {
            w = w << 8 | text.charAt(i);
        }
        return w;
    }

    static List<String> pieces(String text) {
        List<String> pieces = new ArrayList<>();
        for (int i = 0; i < text.length(); i += 8) {
            pieces.add(text.substring(i, Math.min(i + 8, text.length())));
        }
        return pieces;
    }

    static void write(StreamForge forge, String script) {
        for (String piece : pieces(script)) {
            forge.script(word(piece));
        }
    }

    static void feed(StreamForge forge, String... lines) {
        for (String line : lines) {
            forge.line(0, 0);
            for (String piece : pieces(line)) {
                forge.more(word(piece));
            }
        }
    }

    static StreamForge parsed(String script, String... lines) {
        StreamForge forge = new StreamForge();
        write(forge, script);
        forge.parse();
        feed(forge, lines);
        return forge;
    }

    static void parses(String script, int commands) {
        StreamForge forge = new StreamForge();
        write(forge, script);
        answers("parse of " + shown(script), commands, forge::parse);
        answers("where after " + shown(script), -2, forge::where);
    }

    static void isNone(String script, int where) {
        StreamForge forge = new StreamForge();
        write(forge, script);
        refuses("parse of " + shown(script), IllegalArgumentException.class, forge::parse);
        answers("where after " + shown(script), where, forge::where);
    }

    /** A run that ends well, with its output. */
    static StreamForge edits(String script, String output, String... lines) {
        StreamForge forge = parsed(script, lines);
        answers("run of " + shown(script), output.length(), forge::run);
        equal("output of " + shown(script), shown(output(forge)), shown(output));
        return forge;
    }

    /** A run that throws, with the output that came before. */
    static StreamForge breaks(String script, Class<? extends RuntimeException> due, String output, String... lines) {
        StreamForge forge = parsed(script, lines);
        refuses("run of " + shown(script), due, forge::run);
        equal("output of " + shown(script), shown(output(forge)), shown(output));
        return forge;
    }

    static String output(StreamForge forge) {
        StringBuilder told = new StringBuilder();
        for (int k = 0; k < forge.ran(0); k++) {
            told.append((char) forge.out(k));
        }
        return told.toString();
    }

    static String space(StreamForge forge) {
        return row(forge, 10);
    }

    static String hold(StreamForge forge) {
        return row(forge, 100);
    }

    private static String row(StreamForge forge, int base) {
        StringBuilder told = new StringBuilder();
        for (int k = 0; k < 60 && forge.ran(base + k) != -1; k++) {
            told.append((char) forge.ran(base + k));
        }
        return told.toString();
    }

    static String shown(String text) {
        return "'" + text.replace("\n", "|") + "'";
    }
}
