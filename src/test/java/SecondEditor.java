import java.util.ArrayList;
import java.util.List;

/** A second editor, written as plainly as the document tells a run, to compare runs with. */
final class SecondEditor {
    /** An address: a number, $ (number 0) or a pattern. */
    record Place(int number, PlainSearch pattern) {
    }

    /** A command; behind is the one to go on with, behind a block or a label. */
    static final class Step {
        char kind;
        Place first;
        Place second;
        boolean inverted;
        int behind;
        String text;
        /** The replacement, cut into characters, & and \ with what is behind it. */
        List<String> replacement;
        PlainSearch pattern;
        boolean all;
        boolean print;
        int digit;
        String from;
        String to;
        /** The number of the line where the range began, 0 if it has not. */
        private int beganAt;
        /** Whether the second address was met, or the range was that time alone. */
        private boolean metSecond;
    }

    String output = "";
    String space = "";
    String hold = "";
    int linesRead;
    int begun;
    int cycles;
    int replacements;
    private final List<Step> steps;
    private final List<String> lines;
    private List<String> appended = new ArrayList<>();
    private boolean replaced;
    private boolean over;

    SecondEditor(List<Step> itsSteps, List<String> itsLines) {
        steps = itsSteps;
        lines = itsLines;
    }

    int run() {
        while (!over && linesRead < lines.size()) {
            space = lines.get(linesRead);
            linesRead++;
            boolean again = true;
            while (again) {
                again = doCycle();
            }
        }
        return output.length();
    }

    /** Whether the commands are to begin anew without a line being read. */
    private boolean doCycle() {
        cycles++;
        replaced = false;
        int at = 0;
        while (at < steps.size()) {
            if (begun == 200) {
                throw new ArithmeticException();
            }
            begun++;
            Step step = steps.get(at);
            at++;
            if (isDone(step)) {
                switch (step.kind) {
                    case 'd': tellAppended(); return false;
                    case 'c': change(step); return false;
                    case 'D': return deleteFirst();
                    case 'q': quit(); return false;
                    case 'n', 'N':
                        if (linesRead == lines.size()) {
                            quit();
                            return false;
                        }
                        takeNext(step.kind);
                        break;
                    case 'b': at = step.behind; break;
                    case 't':
                        at = replaced ? step.behind : at;
                        replaced = false;
                        break;
                    default: perform(step);
                }
            } else if (step.kind == '{') {
                at = step.behind;
            }
        }
        tell(space);
        tellAppended();
        return false;
    }

    private boolean isDone(Step step) {
        boolean fits = true;
        if (step.second != null) {
            fits = isInRange(step);
        } else if (step.first != null) {
            fits = fits(step.first);
        }
        return step.inverted ? !fits : fits;
    }

    private boolean isInRange(Step step) {
        int number = step.second.number;
        step.metSecond = false;
        if (step.beganAt > 0) {
            step.metSecond = number > 0 ? linesRead >= number : fits(step.second);
            step.beganAt = step.metSecond ? 0 : step.beganAt;
            return true;
        }
        if (!fits(step.first)) {
            return false;
        }
        step.metSecond = number > 0 && number <= linesRead;
        step.beganAt = step.metSecond ? 0 : linesRead;
        return true;
    }

    private boolean fits(Place place) {
        if (place.pattern != null) {
            return place.pattern.search(space, 0)[0] >= 0;
        }
        return linesRead == (place.number > 0 ? place.number : lines.size());
    }

    private void tell(String text) {
        if (output.length() + text.length() + 1 > 600) {
            throw new IndexOutOfBoundsException();
        }
        output += text + "\n";
    }

    private void tellAppended() {
        for (String text : appended) {
            tell(text);
        }
        appended = new ArrayList<>();
    }

    private void quit() {
        over = true;
        tell(space);
        tellAppended();
    }

    private void change(Step step) {
        space = "";
        if (step.second == null || step.inverted || step.metSecond) {
            tell(step.text);
        }
        tellAppended();
    }

    private boolean deleteFirst() {
        tellAppended();
        int newline = space.indexOf('\n');
        if (newline < 0) {
            return false;
        }
        space = space.substring(newline + 1);
        return true;
    }

    private void takeNext(char kind) {
        String line = lines.get(linesRead);
        if (kind == 'n') {
            tell(space);
            tellAppended();
            space = line;
        } else {
            String joined = limited(space + "\n" + line);
            tellAppended();
            space = joined;
        }
        linesRead++;
    }

    private static String limited(String text) {
        if (text.length() > 60) {
            throw new IndexOutOfBoundsException();
        }
        return text;
    }

    private void perform(Step step) {
        switch (step.kind) {
            case 's' -> substitute(step);
            case 'y' -> exchange(step);
            case 'a' -> append(step.text);
            case 'i' -> tell(step.text);
            case 'p' -> tell(space);
            case 'P' -> tell(space.split("\n", -1)[0]);
            case 'h' -> hold = space;
            case 'H' -> hold = limited(hold + "\n" + space);
            case 'g' -> space = hold;
            case 'G' -> space = limited(space + "\n" + hold);
            case 'x' -> {
                String before = space;
                space = hold;
                hold = before;
            }
            case '=' -> tell(String.valueOf(linesRead));
            default -> { }
        }
    }

    private void append(String text) {
        int had = 0;
        for (String other : appended) {
            had += other.length() + 1;
        }
        if (had + text.length() + 1 > 200) {
            throw new IndexOutOfBoundsException();
        }
        appended.add(text);
    }

    private void exchange(Step step) {
        StringBuilder exchanged = new StringBuilder();
        for (char c : space.toCharArray()) {
            int place = step.from.indexOf(c);
            exchanged.append(place < 0 ? c : step.to.charAt(place));
        }
        space = exchanged.toString();
    }

    private void substitute(Step step) {
        List<int[]> matches = countedMatches(step.pattern);
        int least = Math.max(1, step.digit);
        int last = step.all ? matches.size() : Math.min(least, matches.size());
        if (least > matches.size()) {
            return;
        }
        StringBuilder made = new StringBuilder();
        int copied = 0;
        for (int[] match : matches.subList(least - 1, last)) {
            made.append(space, copied, match[0]);
            for (String part : step.replacement) {
                made.append(meant(part, match));
            }
            copied = match[0] + match[1];
        }
        String result = limited(made + space.substring(copied));
        if (step.print) {
            tell(result);
        }
        space = result;
        replacements += last - least + 1;
        replaced = true;
    }

    private List<int[]> countedMatches(PlainSearch pattern) {
        List<int[]> counted = new ArrayList<>();
        int from = 0;
        int endBefore = -1;
        while (from <= space.length()) {
            int[] match = pattern.search(space, from);
            if (match[0] < 0) {
                break;
            }
            boolean empty = match[1] == 0;
            if (!(empty && match[0] == endBefore)) {
                counted.add(match);
            }
            endBefore = match[0] + match[1];
            from = empty ? endBefore + 1 : endBefore;
        }
        return counted;
    }

    private String meant(String part, int[] match) {
        switch (part) {
            case "&": return space.substring(match[0], match[0] + match[1]);
            case "\\n": return "\n";
            case "\\1", "\\2", "\\3":
                int group = part.charAt(1) - '0';
                return space.substring(match[2 * group], match[2 * group] + match[2 * group + 1]);
            default: return part.substring(part.length() - 1);
        }
    }
}
