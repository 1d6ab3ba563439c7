import java.util.ArrayList;
import java.util.List;
import java.util.Random;

/** Texts by chance: most without a fault, many at the edges of what there is room for. */
final class RandomTexts {
    private final Random random;
    private final List<String> cells = new ArrayList<>();
    private final int[] ways = new int[20];

    RandomTexts(Random random) {
        this.random = random;
    }

    private int upTo(int n) {
        return random.nextInt(n + 1);
    }

    private int oneOf(int... numbers) {
        return numbers[random.nextInt(numbers.length)];
    }

    /** A text that has a fault only by a rare chance. */
    String good() {
        cells.clear();
        java.util.Arrays.fill(ways, 0);
        StringBuilder text = new StringBuilder();
        int all = oneOf(1, 1, 2, 2, 3, 3, 4, 5, 6, 12);
        for (int i = 0; i < all; i++) {
            cells.add("" + (char) ('a' + i) + (random.nextInt(4) == 0 ? "well" : ""));
            text.append("cell ").append(cells.get(i)).append(blanks()).append(' ').append(1 + upTo(oneOf(0, 2, 8)))
                .append(' ').append(upTo(oneOf(0, 20, 300, 999, 9999))).append(';');
        }
        int passes = all < 2 ? 0 : upTo(oneOf(all, 2 * all, 8));
        for (int i = 0; i < passes && i < 20; i++) {
            int from = random.nextInt(all);
            int to = random.nextInt(all);
            if (from != to && ways[from] < 8 && ways[to] < 8) {
                ways[from]++;
                ways[to]++;
                text.append("pass ").append(cells.get(from)).append(' ').append(cells.get(to)).append(' ')
                    .append(1 + upTo(9)).append(blanks()).append(';');
            }
        }
        for (int i = upTo(3); i > 0; i--) {
            int cell = random.nextInt(all);
            if (ways[cell] < 8) {
                ways[cell]++;
                text.append("river ").append(cells.get(cell)).append(' ').append(upTo(oneOf(0, 50, 300, 999)))
                    .append(' ').append(1 + upTo(9)).append(' ').append(upTo(oneOf(0, 5, 99))).append(";\n");
            }
        }
        for (int i = oneOf(0, 1, 1, 1, 2); i > 0; i--) {
            text.append("rain");
            for (int days = upTo(oneOf(0, 1, 3, 14)); days > 0; days--) {
                text.append(' ').append(upTo(oneOf(0, 5, 30, 99)));
            }
            text.append(';');
        }
        int villages = oneOf(0, 1, 2, 2, 3, 3, 4, 6);
        for (int i = 0; i < villages; i++) {
            text.append("village ").append("v").append((char) ('a' + i)).append(' ').append(someCell()).append(' ')
                .append(upTo(oneOf(0, 10, 40, 99))).append('=').append(sum(0)).append(';');
        }
        return text.toString();
    }

    private String blanks() {
        return switch (random.nextInt(8)) {
            case 0 -> "\t ";
            case 1 -> "\r\n";
            default -> "";
        };
    }

    private String someCell() {
        return cells.get(random.nextInt(cells.size()));
    }

    private String sum(int depth) {
        StringBuilder s = new StringBuilder(product(depth));
        while (random.nextInt(3) == 0) {
            s.append(random.nextBoolean() ? " + " : "-").append(product(depth));
        }
        return s.toString();
    }

    private String product(int depth) {
        StringBuilder s = new StringBuilder(unit(depth));
        while (random.nextInt(4) == 0) {
            s.append(random.nextBoolean() ? "*" : " / ").append(unit(depth));
        }
        return s.toString();
    }

    private String unit(int depth) {
        int kind = random.nextInt(12);
        if (kind < 4) {
            return "" + upTo(oneOf(0, 3, 20, 60, 9999));
        }
        if (kind < 9) {
            return new String[] {"seen", "day", "today", "took", "dry"}[kind - 4];
        }
        if (kind < 10) {
            return "at " + someCell();
        }
        return depth >= oneOf(3, 6, 6) ? "5" : "(" + sum(depth + 1) + ")";
    }

    /** A text with something changed by chance, so that it may have a fault. */
    String bad() {
        StringBuilder text = new StringBuilder(good());
        // letters changed by chance mostly break the syntax: most texts get whole tellings too much instead
        int kinds = random.nextInt(3) == 0 ? 0 : 6;
        for (int i = 1 + upTo(2); i > 0 && text.length() > 0; i--) {
            int at = random.nextInt(text.length());
            switch (kinds + random.nextInt(9 - kinds)) {
                case 0 -> text.deleteCharAt(at);
                case 1 -> text.insert(at, (char) random.nextInt(256));
                case 2 -> text.setCharAt(at, "abz059;=+-*/() .,AZ".charAt(random.nextInt(19)));
                case 3 -> text.setLength(at);
                case 4 -> text.insert(at, "00");
                case 5 -> text.insert(at, "((((");
                case 6 -> text.insert(text.indexOf(";", at) + 1, extra());
                case 7 -> text.insert(text.indexOf(";", at) + 1, text.substring(0, text.indexOf(";") + 1));
                default -> text.append(many());
            }
        }
        return text.length() > 2000 ? text.substring(0, 2000) : text.toString();
    }

    private String extra() {
        String a = someCell();
        String b = someCell();
        return switch (random.nextInt(8)) {
            case 0 -> "cell " + a + " 1 1;";
            case 1 -> "pass " + a + " " + b + " " + upTo(12) + ";";
            case 2 -> "pass " + a + " none 3;";
            case 3 -> "river none 3 3 3;";
            case 4 -> "river " + a + " " + upTo(1100) + " " + upTo(12) + " " + upTo(110) + ";";
            case 5 -> "village " + a + " " + b + " " + upTo(110) + " = at " + oneOf(1, 2) + ";";
            case 6 -> "village q " + b + " " + upTo(110) + " = at qq;";
            default -> "cell xx " + upTo(11) + " " + upTo(9999) + ";";
        };
    }

    /** So much of one thing that there may be no room. */
    private String many() {
        StringBuilder s = new StringBuilder();
        int count = 5 + random.nextInt(16);
        int what = random.nextInt(7);
        for (int i = 0; i < count; i++) {
            String name = "n" + (char) ('a' + i);
            switch (what) {
                case 0 -> s.append("cell ").append(name).append(" 1 1;");
                case 1 -> s.append("pass ").append(someCell()).append(' ').append(someCell()).append(" 3;");
                case 2 -> s.append("river ").append(someCell()).append(" 3 3 3;");
                case 3 -> s.append("rain 1 2 3 4 5 6 7 8 9 10 11 12 13 14;");
                case 4 -> s.append("village ").append(name).append(' ').append(someCell()).append(" 3=3;");
                case 5 -> s.append(i == 0 ? "rain" : "").append(' ').append(i);
                default -> s.append(i == 0 ? "village " + name + " " + someCell() + " 1 = 1" : "").append("+1*dry-(seen)");
            }
        }
        return s.append(what >= 5 ? ";" : "").toString();
    }
}
