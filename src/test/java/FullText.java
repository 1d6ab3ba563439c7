/** A text that is full: all cells, passes, rivers, numbers of rain and villages that there is room for, 400 tokens. */
final class FullText {
    private FullText() {
    }

    static String text() {
        StringBuilder text = new StringBuilder();
        for (int i = 0; i < 12; i++) {
            text.append("cell ").append(cell(i)).append(" 3 9000;");
        }
        for (int i = 0; i < 12; i++) {
            text.append("pass ").append(cell(i)).append(' ').append(cell(i + 1)).append(" 7;");
        }
        for (int i = 0; i < 8; i++) {
            text.append("pass ").append(cell(i)).append(' ').append(cell(i + 3)).append(" 7;");
        }
        text.append("river a 900 10 90;river b 10 10 0;river c 500 10 5;rain 1 2 3 4 5 6 7 8 9 10 11 12 13 14;");
        for (int i = 0; i < 6; i++) {
            text.append("village v").append(cell(i)).append(' ').append(cell(i)).append(" 9=at ").append(cell(i));
            text.append("/9".repeat(i < 5 ? 13 : 14)).append(';');
        }
        return text.toString();
    }

    /** As full, but poor: little water, and laws that take it, so that villages run dry. */
    static String poor() {
        StringBuilder text = new StringBuilder();
        for (int i = 0; i < 12; i++) {
            text.append("cell ").append(cell(i)).append(' ').append(1 + i % 9).append(' ').append(40 * i % 350).append(';');
        }
        for (int i = 0; i < 20; i++) {
            text.append("pass ").append(cell(i)).append(' ').append(cell(i + 1 + i / 12)).append(' ').append(1 + i % 10).append(';');
        }
        text.append("river l 300 10 99;river k 0 9 1;river a 120 8 20;rain 0 9 0 1 0 0 12 0 3 0 0 1 0 5;");
        for (int i = 0; i < 6; i++) {
            text.append("village v").append(cell(i)).append(' ').append(cell(11 - i)).append(' ').append(12 + 3 * i);
            text.append("=1+(2-(3-(4-(5+at l/2))))+took/3-dry").append(i < 5 ? ";" : "+day;");
        }
        return text.toString();
    }

    private static char cell(int i) {
        return (char) ('a' + i % 12);
    }
}
