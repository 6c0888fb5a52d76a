import java.util.ArrayList;
import java.util.List;
import java.util.Random;

/** Makes texts of passes, right ones and wrong ones, and feeds them. */
final class Texts {
    private static final String[] NAMES = {"ann", "bob", "gable", "bar", "cellar", "a", "b", "eightlet", "z"};
    private static final String[] WORDS = {"lanes", "rows", "slope", "steep", "lies", "snow", "wall", "left", "right",
        "room", "lane", "bears", "rate", "guest", "noise", "from", "to", "tips", "falls", "wind", "draw", "or", "and",
        "not", "below", "hour", "row", "ann", "bar", "ninechars", ";", "(", ")", "<", ">", "=", "+", "-", "*", "/",
        "%", "0", "1", "2", "5", "47", "48", "99", "100", "9999", "10000", "3x", "#", "A", "\t", "\n", " "};
    private final Random random;

    Texts(Random random) {
        this.random = random;
    }

    private int upTo(int most) {
        return random.nextInt(most + 1);
    }

    private boolean oneIn(int n) {
        return random.nextInt(n) == 0;
    }

    /** A right text; the rooms and lanes are few if it is to be small. */
    String right(boolean small) {
        StringBuilder text = new StringBuilder();
        int lanes = 4;
        int rows = 3;
        if (!oneIn(4)) {
            lanes = 1 + upTo(small ? 3 : 5);
            text.append("lanes ").append(lanes).append(';');
        }
        if (!oneIn(4)) {
            rows = 1 + upTo(4);
            text.append("rows ").append(rows).append(";\n");
        }
        List<String> lines = new ArrayList<>();
        for (int row = 0; row < rows; row++) {
            if (oneIn(2)) {
                lines.add("slope " + row + " steep " + upTo(9));
            }
        }
        int snowy = 1 + upTo(3);
        int walled = 2 + upTo(6);
        for (int lane = 0; lane < lanes; lane++) {
            for (int row = 0; row < rows; row++) {
                if (oneIn(snowy)) {
                    lines.add("lies " + lane + " " + row + " snow " + upTo(oneIn(2) ? 30 : 8));
                }
                if (oneIn(walled)) {
                    lines.add("wall " + lane + " " + row + (oneIn(2) ? " left" : " right"));
                }
            }
        }
        addPlain(lines);
        int rooms = small ? upTo(3) : upTo(5);
        for (int room = 0; room < rooms; room++) {
            String rate = oneIn(3) ? "" : " rate " + upTo(20);
            lines.add("room " + NAMES[room] + " lane " + upTo(lanes - 1) + " bears " + upTo(oneIn(2) ? 99 : 20) + rate);
        }
        int guests = rooms == 0 ? 0 : upTo(6);
        for (int guest = 0; guest < guests; guest++) {
            int from = upTo(oneIn(3) ? 47 : 8);
            int to = from + upTo(47 - from);
            lines.add("guest " + NAMES[NAMES.length - 1 - guest] + " room " + NAMES[upTo(rooms - 1)] + " noise "
                    + upTo(30) + " from " + from + " to " + to);
        }
        if (!oneIn(3)) {
            lines.add("tips " + formula(2 + upTo(5), 0));
        }
        for (String line : lines) {
            text.append(line).append(oneIn(3) ? " ;" : ";").append(oneIn(5) ? "\n" : "");
        }
        return text.length() > 1600 ? "" : text.toString();
    }

    /** A right text with much that hangs in the balance: weak rooms, loud guests, snow that has not tipped yet. */
    String lively() {
        int lanes = 2 + upTo(2);
        int rows = 1 + upTo(3);
        StringBuilder text = new StringBuilder("lanes " + lanes + ";rows " + rows + ";falls " + upTo(2) + ";");
        for (int row = 0; row < rows; row++) {
            text.append("slope ").append(row).append(" steep ").append(1 + upTo(4)).append(';');
        }
        for (int lane = 0; lane < lanes; lane++) {
            for (int row = 0; row < rows; row++) {
                text.append("lies ").append(lane).append(' ').append(row).append(" snow ").append(upTo(9)).append(';');
                if (oneIn(5)) {
                    text.append("wall ").append(lane).append(' ').append(row).append(oneIn(2) ? " left;" : " right;");
                }
            }
        }
        int rooms = 1 + upTo(3);
        for (int room = 0; room < rooms; room++) {
            text.append("room ").append(NAMES[room]).append(" lane ").append(upTo(lanes - 1)).append(" bears ");
            text.append(4 + upTo(18)).append(" rate ").append(upTo(4)).append(';');
        }
        int guests = upTo(5);
        for (int guest = 0; guest < guests; guest++) {
            int from = upTo(4);
            text.append("guest ").append(NAMES[guest]).append(" room ").append(NAMES[upTo(rooms - 1)]).append(" noise ");
            text.append(upTo(30)).append(" from ").append(from).append(" to ").append(from + upTo(12)).append(';');
        }
        if (oneIn(2)) {
            text.append("wind ").append(upTo(100)).append(";draw ").append(upTo(999)).append(';');
        }
        if (oneIn(3)) {
            text.append(oneIn(2) ? "tips snow * steep + noise - below * 2 > 35;" : "tips noise > 20 and snow > 4;");
        }
        return text.toString();
    }

    private void addPlain(List<String> lines) {
        if (!oneIn(3)) {
            lines.add("falls " + upTo(oneIn(2) ? 9 : 3));
        }
        if (!oneIn(3)) {
            lines.add("wind " + upTo(100));
        }
        if (!oneIn(3)) {
            lines.add("draw " + upTo(999));
        }
    }

    private String unit(int depth) {
        String[] facts = {"snow", "steep", "noise", "below", "hour", "row", "snow", "noise"};
        return switch (upTo(4)) {
            case 0 -> String.valueOf(upTo(oneIn(4) ? 9999 : 40));
            case 1 -> depth < 3 ? "(" + formula(1 + upTo(2), depth + 1) + ")" : "snow";
            default -> facts[upTo(facts.length - 1)];
        };
    }

    private String formula(int units, int depth) {
        String[] joins = {"+", "-", "*", "/", "%", "+", "-", "*", " and ", " or ", "<", ">", "="};
        StringBuilder text = new StringBuilder(oneIn(6) ? "not " : "").append(unit(depth));
        boolean related = false;
        for (int i = 1; i < units; i++) {
            int join = upTo(joins.length - 1);
            if (join >= 10 && related) {
                join = upTo(9);
            }
            related = join >= 10 || related && join != 8 && join != 9;
            text.append(joins[join]);
            if ((join == 8 || join == 9) && oneIn(4)) {
                text.append("not ");
            }
            text.append(unit(depth));
        }
        return text.toString();
    }

    /** A text that is likely to have a fault. */
    String wrong() {
        StringBuilder text = new StringBuilder(right(oneIn(2)));
        int changes = 1 + upTo(2);
        for (int i = 0; i < changes; i++) {
            int at = upTo(text.length());
            String word = WORDS[upTo(WORDS.length - 1)];
            switch (upTo(3)) {
                case 0 -> text.insert(at, word);
                case 1 -> text.insert(at, " " + word + " ");
                case 2 -> text.replace(at, Math.min(text.length(), at + 1 + upTo(4)), word);
                default -> text.delete(at, Math.min(text.length(), at + 1 + upTo(12)));
            }
        }
        return text.length() > 1600 ? "#" : text.toString();
    }

    /** Words in any order, each line at least begun as one. */
    String soup() {
        StringBuilder text = new StringBuilder();
        int words = upTo(20);
        for (int i = 0; i < words; i++) {
            text.append(WORDS[upTo(WORDS.length - 1)]).append(oneIn(3) ? "" : " ");
        }
        return text.toString();
    }

    /** The five numbers by which the twenty bytes from a place on are fed; blanks behind the end. */
    static int[] numbers(String text, int from) {
        int[] numbers = new int[5];
        for (int i = 0; i < 20; i++) {
            int sign = from + i < text.length() ? text.charAt(from + i) : ' ';
            numbers[i / 4] = numbers[i / 4] << 8 | sign;
        }
        return numbers;
    }

    /** Lays a text onto the tape, and nothing else. */
    static void lay(AvalancheInn inn, String text) {
        inn.end(0);
        for (int i = 0; i < text.length(); i += 20) {
            int[] n = numbers(text, i);
            inn.feed(n[0], n[1], n[2], n[3], n[4]);
        }
        inn.end(text.length());
    }

    /** Lays a text onto the tape and tells it as a pass. */
    static int tell(AvalancheInn inn, String text) {
        lay(inn, text);
        return inn.pass();
    }
}
