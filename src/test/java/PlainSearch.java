import java.util.ArrayList;
import java.util.List;
import java.util.Random;

/** A pattern made at random, and a search for it that looks at every way. */
final class PlainSearch {
    private static final String[] ONES = {"a", "b", "c", ".", "[ab]", "[^a]", "[b-c]", "[^b-c]", "\\.", "[a-]"};

    /** An item: what it takes, a group's begin or end, or what a group matched. */
    private record Item(char kind, String taken, int group, boolean star) {
    }

    /** A way: where it ends, what the first star takes, and the groups' places. */
    private record Way(int end, int first, int[] groups) {
    }

    private final List<Item> items = new ArrayList<>();
    private final boolean atBeginning;
    private final boolean atEnd;
    private final String written;
    private int groups;
    private String text;
    private List<Way> ways;

    PlainSearch(Random random, int mostItems) {
        atBeginning = random.nextInt(8) == 0;
        atEnd = random.nextInt(8) == 0;
        written = (atBeginning ? "^" : "") + makeItems(random, random.nextInt(mostItems + 1)) + (atEnd ? "$" : "");
    }

    String written() {
        return written;
    }

    int groups() {
        return groups;
    }

    private String makeItems(Random random, int count) {
        StringBuilder pattern = new StringBuilder();
        int stars = 0;
        boolean open = false;
        for (int left = count; left > 0; left--) {
            int choice = random.nextInt(10);
            int closed = open ? groups - 1 : groups;
            if (choice == 0 && !open && groups < 3) {
                open = true;
                groups++;
                items.add(new Item('(', "", groups, false));
                pattern.append("\\(");
            } else if (choice <= 2 && open) {
                open = false;
                items.add(new Item(')', "", groups, false));
                pattern.append("\\)");
            } else if (choice == 3 && closed > 0) {
                int group = 1 + random.nextInt(closed);
                items.add(new Item('=', "", group, false));
                pattern.append('\\').append(group);
            } else {
                String one = ONES[random.nextInt(ONES.length)];
                boolean star = stars < 2 && random.nextInt(2) == 0;
                stars += star ? 1 : 0;
                items.add(new Item('1', one, 0, star));
                pattern.append(one).append(star ? "*" : "");
            }
        }
        if (open) {
            items.add(new Item(')', "", groups, false));
            pattern.append("\\)");
        }
        return pattern.toString();
    }

    /** What match tells for 0 to 7 of the match from a place on: all -2 if there is none. */
    int[] search(String searched, int from) {
        text = searched;
        for (int at = from; at <= (atBeginning ? 0 : text.length()); at++) {
            ways = new ArrayList<>();
            follow(0, at, -1, new int[6]);
            if (!ways.isEmpty()) {
                return told(at, best());
            }
        }
        return new int[] {-2, -2, -2, -2, -2, -2, -2, -2};
    }

    private Way best() {
        Way best = ways.get(0);
        for (Way way : ways) {
            if (way.end > best.end || (way.end == best.end && way.first > best.first)) {
                best = way;
            }
        }
        return best;
    }

    private int[] told(int at, Way way) {
        int[] told = {at, way.end - at, -1, -1, -1, -1, -1, -1};
        for (int g = 0; g < groups; g++) {
            told[2 + 2 * g] = way.groups[2 * g];
            told[3 + 2 * g] = way.groups[2 * g + 1] - way.groups[2 * g];
        }
        return told;
    }

    private void follow(int index, int place, int first, int[] marks) {
        if (index == items.size()) {
            if (!atEnd || place == text.length()) {
                ways.add(new Way(place, first, marks));
            }
            return;
        }
        Item item = items.get(index);
        int[] next = marks.clone();
        if (item.kind == '(') {
            next[2 * item.group - 2] = place;
            follow(index + 1, place, first, next);
        } else if (item.kind == ')') {
            next[2 * item.group - 1] = place;
            follow(index + 1, place, first, next);
        } else if (item.kind == '=') {
            String again = text.substring(marks[2 * item.group - 2], marks[2 * item.group - 1]);
            if (text.startsWith(again, place)) {
                follow(index + 1, place + again.length(), first, next);
            }
        } else if (!item.star) {
            if (takes(item, place)) {
                follow(index + 1, place + 1, first, next);
            }
        } else {
            int count = 0;
            follow(index + 1, place, first < 0 ? 0 : first, next);
            while (takes(item, place + count)) {
                count++;
                follow(index + 1, place + count, first < 0 ? count : first, next);
            }
        }
    }

    private boolean takes(Item item, int place) {
        if (place >= text.length()) {
            return false;
        }
        char c = text.charAt(place);
        return switch (item.taken) {
            case "." -> true;
            case "\\." -> c == '.';
            case "[ab]" -> c == 'a' || c == 'b';
            case "[^a]" -> c != 'a';
            case "[b-c]" -> c == 'b' || c == 'c';
            case "[^b-c]" -> c != 'b' && c != 'c';
            case "[a-]" -> c == 'a' || c == '-';
            default -> c == item.taken.charAt(0);
        };
    }
}
