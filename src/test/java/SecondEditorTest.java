import java.util.ArrayList;
import java.util.LinkedHashMap;
import java.util.List;
import java.util.Map;
import java.util.Random;

/**
 * Runs of many scripts made at random against a second editor: what comes out, what is thrown and
 * all that ran tells. Called with a number and a seed, it makes so many others.
 */
public final class SecondEditorTest {
    private static final int LABELS = 2;

    private final Random random;
    private StringBuilder script;
    private List<SecondEditor.Step> steps;
    /** What stands behind each label, and the steps that go there. */
    private Map<Character, Integer> behindLabels;
    private Map<SecondEditor.Step, Character> branches;
    /** Whether texts and lines are so long that there is often no room. */
    private boolean large;

    private SecondEditorTest(long seed) {
        random = new Random(seed);
    }

    public static void main(String[] args) {
        int turns = args.length > 0 ? Integer.parseInt(args[0]) : 20000;
        SecondEditorTest test = new SecondEditorTest(args.length > 1 ? Long.parseLong(args[1]) : 8);
        for (int turn = 0; turn < turns; turn++) {
            test.compare();
        }
        Checks.end();
    }

    private void compare() {
        large = random.nextInt(3) == 0;
        makeScript();
        while (script.length() > 240) {
            makeScript();
        }
        List<String> lines = newLines();
        SecondEditor second = new SecondEditor(steps, lines);
        String due = Checks.told(second::run);
        StreamForge forge = compareRuns(due, second, lines.toArray(new String[0]));
        String what = Checks.shown(script.toString()) + " on " + lines;
        Checks.answers("commands of " + what, steps.size(), () -> forge.count(2));
        Checks.counts(what, forge, second.output.length(), second.linesRead, second.begun, second.cycles,
                second.replacements);
        Checks.equal("space after " + what, Checks.space(forge), second.space);
        Checks.equal("hold after " + what, Checks.hold(forge), second.hold);
    }

    private StreamForge compareRuns(String due, SecondEditor second, String[] lines) {
        switch (due) {
            case "IndexOutOfBoundsException":
                return Checks.breaks(script.toString(), Checks.NO_ROOM, second.output, lines);
            case "ArithmeticException":
                return Checks.breaks(script.toString(), Checks.TOO_MANY, second.output, lines);
            default:
                return Checks.edits(script.toString(), second.output, lines);
        }
    }

    private List<String> newLines() {
        List<String> lines = new ArrayList<>();
        for (int left = random.nextInt(large ? 13 : 7); left > 0; left--) {
            lines.add(anyText("aabbc.-", random.nextInt(large ? 25 : 7)));
        }
        return lines;
    }

    private String anyText(String characters, int length) {
        StringBuilder text = new StringBuilder();
        for (int i = 0; i < length; i++) {
            text.append(any(characters));
        }
        return text.toString();
    }

    private char any(String characters) {
        return characters.charAt(random.nextInt(characters.length()));
    }

    private void makeScript() {
        script = new StringBuilder();
        steps = new ArrayList<>();
        behindLabels = new LinkedHashMap<>();
        branches = new LinkedHashMap<>();
        addCommands(1 + random.nextInt(8), 0);
        for (char label : branches.values()) {
            if (!behindLabels.containsKey(label)) {
                addLabel(label);
            }
        }
        for (SecondEditor.Step branch : branches.keySet()) {
            branch.behind = behindLabels.get(branches.get(branch));
        }
        for (SecondEditor.Step step : steps) {
            boolean toTheEnd = (step.kind == 'b' || step.kind == 't') && !branches.containsKey(step);
            step.behind = toTheEnd ? steps.size() : step.behind;
        }
    }

    private void addCommands(int count, int depth) {
        for (int left = count; left > 0; left--) {
            char label = (char) ('a' + random.nextInt(LABELS));
            if (random.nextInt(12) == 0 && !behindLabels.containsKey(label)) {
                addLabel(label);
            } else {
                addCommand(depth);
            }
        }
    }

    private SecondEditor.Step addStep(char kind) {
        SecondEditor.Step step = new SecondEditor.Step();
        step.kind = kind;
        steps.add(step);
        return step;
    }

    private void addLabel(char label) {
        addStep(':');
        script.append(':').append(label).append(any("\n; "));
        behindLabels.put(label, steps.size());
    }

    private void addCommand(int depth) {
        SecondEditor.Step step = addStep(any("ssssssbttyaiccddDDppPnNNhHgGGxx=q" + (depth < 4 ? "{{{" : "")));
        addAddresses(step);
        script.append(step.kind);
        switch (step.kind) {
            case '{':
                addCommands(random.nextInt(4), depth + 1);
                step.behind = steps.size();
                script.append(random.nextBoolean() ? "}" : "};");
                return;
            case 's':
                addSubstitution(step);
                break;
            case 'y':
                step.from = random.nextBoolean() ? "ab" : "c.a-";
                step.to = random.nextBoolean() ? step.from.substring(1) + "x" : "b".repeat(step.from.length());
                script.append("/" + step.from + "/" + step.to + "/");
                break;
            case 'a', 'i', 'c':
                step.text = anyText("xy }", random.nextInt(large ? 70 : 4));
                script.append(" " + step.text + "\n");
                return;
            case 'b', 't':
                if (random.nextInt(3) > 0) {
                    char label = (char) ('a' + random.nextInt(LABELS));
                    branches.put(step, label);
                    script.append(label);
                }
                break;
            default:
        }
        script.append(any("\n;; "));
    }

    private void addAddresses(SecondEditor.Step step) {
        int choice = random.nextInt(10);
        if (choice >= 4) {
            step.first = addPlace();
        }
        if (choice >= 7) {
            script.append(',');
            step.second = addPlace();
        }
        script.append(random.nextInt(8) == 0 ? " " : "");
        step.inverted = step.first != null && random.nextInt(5) == 0;
        script.append(step.inverted ? "!" : "").append(step.inverted && random.nextInt(4) == 0 ? " " : "");
    }

    private SecondEditor.Place addPlace() {
        int choice = random.nextInt(5);
        if (choice == 0) {
            script.append('$');
            return new SecondEditor.Place(0, null);
        }
        if (choice <= 2) {
            int number = 1 + random.nextInt(large ? 13 : 6);
            script.append(number);
            return new SecondEditor.Place(number, null);
        }
        PlainSearch pattern = new PlainSearch(random, 4);
        script.append("/" + pattern.written() + "/");
        return new SecondEditor.Place(-1, pattern);
    }

    private void addSubstitution(SecondEditor.Step step) {
        step.pattern = new PlainSearch(random, 5);
        step.replacement = new ArrayList<>();
        for (int left = random.nextInt(4); left > 0; left--) {
            int group = 1 + random.nextInt(3);
            String[] parts = {"a", "x", "&", "&", "\\n", "\\&", "\\/", "\\\\", "\\" + group, "\\" + group};
            step.replacement.add(parts[random.nextInt(step.pattern.groups() >= group ? 10 : 8)]);
        }
        step.all = random.nextInt(2) == 0;
        step.print = random.nextInt(4) == 0;
        step.digit = random.nextInt(4) == 0 ? 1 + random.nextInt(3) : 0;
        script.append("/" + step.pattern.written() + "/" + String.join("", step.replacement) + "/");
        script.append(step.print ? "p" : "").append(step.digit > 0 ? String.valueOf(step.digit) : "");
        script.append(step.all ? "g" : "");
    }
}
