import java.util.ArrayList;
import java.util.List;
import java.util.function.Supplier;
import java.util.function.ToIntFunction;

/**
 * What the tests share: texts as calls, and the count of answers that are not as due. No test makes
 * more than 512 calls on an object, since the document leaves free what later ones answer.
 */
final class Checks {
    interface Call {
        int answer();
    }

    static final Class<IllegalArgumentException> WRONG = IllegalArgumentException.class;
    static final Class<IllegalStateException> NOT_NOW = IllegalStateException.class;
    static final Class<IndexOutOfBoundsException> NO_ROOM = IndexOutOfBoundsException.class;
    static final Class<IndexOutOfBoundsException> NO_SUCH = IndexOutOfBoundsException.class;
    static final Class<ArithmeticException> TOO_MANY = ArithmeticException.class;

    /** So much of an output is read from one object, and the rest from another one. */
    private static final int READ_AT_ONCE = 300;

    private static int asDue = 0;
    private static int wrong = 0;

    private Checks() {
    }

    static void equal(String what, Object got, Object due) {
        if (due.equals(got)) {
            asDue++;
        } else {
            wrong++;
            System.out.println(what + " answered " + got + ", due is " + due);
        }
    }

    static void answers(String what, int due, Call call) {
        equal(what, told(call), String.valueOf(due));
    }

    static void refuses(String what, Class<? extends RuntimeException> due, Call call) {
        equal(what, told(call), due.getSimpleName());
    }

    static String told(Call call) {
        try {
            return String.valueOf(call.answer());
        } catch (RuntimeException e) {
            return e.getClass().getSimpleName();
        }
    }

    /** Ends a test: with exit code 1 if an answer was not as due. */
    static void end() {
        System.out.println(asDue + " answers as due, " + wrong + " not");
        System.exit(wrong == 0 && asDue > 0 ? 0 : 1);
    }

    /** Up to eight characters as the bytes of a long. */
    static long word(String text) {
        long w = 0;
        for (int i = 0; i < text.length(); i++) {
            w = w << 8 | text.charAt(i);
        }
        return w;
    }

    static List<String> pieces(String text) {
        List<String> pieces = new ArrayList<>();
        for (int i = 0; i < text.length(); i += 8) {
            pieces.add(text.substring(i, Math.min(i + 8, text.length())));
        }
        return pieces;
    }

    static void write(StreamForge forge, String script) {
        for (String piece : pieces(script)) {
            forge.script(word(piece));
        }
    }

    static void feed(StreamForge forge, String... lines) {
        for (String line : lines) {
            List<String> pieces = pieces(line);
            forge.line(pieces.size() > 0 ? word(pieces.get(0)) : 0, pieces.size() > 1 ? word(pieces.get(1)) : 0);
            for (int i = 2; i < pieces.size(); i++) {
                forge.more(word(pieces.get(i)));
            }
        }
    }

    static StreamForge written(String script, String... lines) {
        StreamForge forge = new StreamForge();
        write(forge, script);
        feed(forge, lines);
        return forge;
    }

    static StreamForge parsed(String script, String... lines) {
        StreamForge forge = written(script, lines);
        forge.parse();
        return forge;
    }

    /** An object with a run behind it, be it one that threw. */
    static StreamForge ran(String script, String... lines) {
        StreamForge forge = parsed(script, lines);
        told(forge::run);
        return forge;
    }

    static void parses(String script, int commands) {
        StreamForge forge = written(script);
        answers("parse of " + shown(script), commands, forge::parse);
        answers("where after " + shown(script), -2, forge::where);
    }

    static void isNone(String script, int where) {
        StreamForge forge = written(script);
        refuses("parse of " + shown(script), WRONG, forge::parse);
        answers("where after " + shown(script), where, forge::where);
    }

    /** A run that ends well, with its output. */
    static StreamForge edits(String script, String output, String... lines) {
        StreamForge forge = parsed(script, lines);
        answers("run of " + shown(script), output.length(), forge::run);
        equal("output of " + shown(script), shown(output(forge, script, lines)), shown(output));
        return forge;
    }

    /** A run that throws, with the output that came before. */
    static StreamForge breaks(String script, Class<? extends RuntimeException> due, String output, String... lines) {
        StreamForge forge = parsed(script, lines);
        refuses("run of " + shown(script), due, forge::run);
        equal("output of " + shown(script), shown(output(forge, script, lines)), shown(output));
        return forge;
    }

    private static String output(StreamForge forge, String script, String... lines) {
        int length = forge.ran(0);
        String told = output(forge, 0, Math.min(length, READ_AT_ONCE));
        return length <= READ_AT_ONCE ? told : told + output(ran(script, lines), READ_AT_ONCE, length);
    }

    static String output(StreamForge forge) {
        return output(forge, 0, forge.ran(0));
    }

    private static String output(StreamForge forge, int from, int to) {
        StringBuilder told = new StringBuilder();
        for (int k = from; k < to; k++) {
            told.append((char) forge.out(k));
        }
        return told.toString();
    }

    static String space(StreamForge forge) {
        return row(forge, 10);
    }

    static String hold(StreamForge forge) {
        return row(forge, 100);
    }

    private static String row(StreamForge forge, int base) {
        StringBuilder told = new StringBuilder();
        for (int k = 0; k < 60; k++) {
            int c = forge.ran(base + k);
            if (c == -1) {
                break;
            }
            told.append((char) c);
        }
        return told.toString();
    }

    /** What ran answers for 0, 1, 2 and so on. */
    static void counts(String what, StreamForge forge, int... due) {
        for (int k = 0; k < due.length; k++) {
            int asked = k;
            answers("ran(" + k + ") of " + what, due[k], () -> forge.ran(asked));
        }
    }

    /** The call is refused, and the object then answers like one on which it was not made. */
    static void leavesAll(String what, Class<? extends RuntimeException> due, Supplier<StreamForge> recipe,
            ToIntFunction<StreamForge> call) {
        StreamForge forge = recipe.get();
        refuses(what, due, () -> call.applyAsInt(forge));
        equal("all after " + what, allOf(forge), allOf(recipe.get()));
    }

    /** All that an object tells; the script and what was parsed are told by what they do. */
    static String allOf(StreamForge forge) {
        StringBuilder told = new StringBuilder(runOf(forge));
        told.append(" where ").append(forge.where());
        for (int what : new int[] {0, 1, 2, 10, 11, 12, 20, 21}) {
            told.append(" ").append(forge.count(what));
        }
        told.append(" ").append(told(() -> forge.match(0, 0, 0))).append(" ").append(told(() -> forge.match(0, 0, 1)));
        told.append(" run ").append(told(forge::run)).append(runOf(forge));
        told.append(" parse ").append(told(forge::parse)).append(" where ").append(forge.where());
        told.append(" run ").append(told(forge::run)).append(runOf(forge));
        return told.toString();
    }

    private static String runOf(StreamForge forge) {
        StringBuilder told = new StringBuilder();
        for (int what = 0; what <= 4; what++) {
            told.append(" ").append(forge.ran(what));
        }
        int length = forge.ran(0);
        told.append(shown(output(forge, 0, Math.min(length, 60))));
        told.append(shown(output(forge, Math.max(60, length - 20), length)));
        return told.append(shown(space(forge))).append(shown(hold(forge))).toString();
    }

    static String shown(String text) {
        return "'" + text.replace("\n", "|") + "'";
    }
}
