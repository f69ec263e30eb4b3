import java.util.ArrayList;
import java.util.List;
import java.util.Random;

/**
 * Where spoilt scripts are refused, against a plain search: what stands before that place can be
 * gone on with to a script, and with the character that stands there none of many ways goes on.
 */
public final class WhereSearchTest {
    private static final String[] COMMANDS = {
        "p", "d", "=", "b", "ta", ":a", ":b", "1p", "$!d", "1,22 ! P", "/a*[b-d]$/n", "/^\\(.\\)\\1/,/[^]-]/x",
        "s/\\(a\\)\\(b*\\)/\\2&\\1/gp", "s/[a-c-]*\\./\\n\\\\/3", "s/a*b*/x/", "y/ab/ba/", "y/xyz/123/", "a text\n",
        "i }\n", "c \n", "{p;p}", "1{{d}}", "{{{{q}}}}", "/aaaaaaaaaaaaaa/N", "s/\\(\\)\\(\\)\\(aaaaaaaaaaaaaa\\)$/&/"
    };
    private static final String SPOILS = "/\\[]*.^$(){}!,;: 0129-abgps&\n";

    private final Random random;
    private final List<String> endings = new ArrayList<>();

    private WhereSearchTest(long seed) {
        random = new Random(seed);
        String[] rests = {
            "", "p", "1p", "/p", "a", " x", "/", "//", "///", "&/", "&//",
            "]/p", "]//", "~]/p", "~]//", "]\\)/p", "]\\)//", "~]\\)/p", "~]\\)//",
            "\\)/p", "\\)//", ")/p", ")//", "./p", ".//", ".\\)/p", ".\\)//", "(\\)/p", "(\\)//"
        };
        for (String rest : rests) {
            addClosed(rest);
        }
        for (int n = 1; n <= 10; n++) {
            addClosed("x".repeat(n) + "/");
            addClosed("/" + "x".repeat(n) + "/");
        }
    }

    private void addClosed(String rest) {
        for (int open = 0; open <= 4; open++) {
            endings.add(rest + "}".repeat(open));
            endings.add(rest + "\n" + "}".repeat(open));
        }
    }

    public static void main(String[] args) {
        int turns = args.length > 0 ? Integer.parseInt(args[0]) : 400;
        WhereSearchTest test = new WhereSearchTest(args.length > 1 ? Long.parseLong(args[1]) : 5);
        for (int turn = 0; turn < turns; turn++) {
            test.look(test.spoiltScript());
        }
        Checks.end();
    }

    private String spoiltScript() {
        StringBuilder script = new StringBuilder();
        for (int left = 1 + random.nextInt(3); left > 0; left--) {
            script.append(COMMANDS[random.nextInt(COMMANDS.length)]);
            script.append(random.nextInt(8) == 0 ? "" : ";");
        }
        int place = random.nextInt(script.length());
        char spoil = SPOILS.charAt(random.nextInt(SPOILS.length()));
        switch (random.nextInt(4)) {
            case 0 -> script.deleteCharAt(place);
            case 1 -> script.setCharAt(place, spoil);
            case 2 -> script.insert(place, spoil);
            default -> script.setLength(place);
        }
        return script.toString();
    }

    private void look(String script) {
        int where = whereOf(script);
        if (where < 0) {
            return;
        }
        String what = "where " + where + " of " + Checks.shown(script) + ": what stands before ";
        if (whereOf(withLabels(script)) == -2) {
            Checks.equal(what + "a label that is missing", "bt".indexOf(script.charAt(where)) >= 0, true);
            return;
        }
        Checks.equal(what + "can be gone on with", goesOn(script.substring(0, where)), true);
        // a \ and what is behind it are refused together, as is a $ that turns out to be an item
        if (where < script.length()) {
            boolean two = "\\$".indexOf(script.charAt(where)) >= 0;
            int end = Math.min(script.length(), where + (two ? 2 : 1));
            Checks.equal(what + "and there can not", goesOn(script.substring(0, end)), false);
        }
    }

    private boolean goesOn(String begin) {
        for (String ending : endings) {
            if (whereOf(withLabels(begin + ending)) == -2) {
                return true;
            }
        }
        return false;
    }

    /** The script, with labels behind it where it is refused for a branch to one that is missing. */
    private static String withLabels(String script) {
        String whole = script;
        for (int missing = 0; missing < 3; missing++) {
            int where = whereOf(whole);
            if (where < 0 || where + 1 >= script.length() || "bt".indexOf(script.charAt(where)) < 0) {
                break;
            }
            whole += "\n:" + script.charAt(where + 1);
        }
        return whole;
    }

    private static int whereOf(String script) {
        StreamForge forge = Checks.written(script);
        Checks.told(forge::parse);
        return forge.where();
    }
}
