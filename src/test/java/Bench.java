/** A desk with short ways to type texts and to read papers, pieces and losses back as texts. */
final class Bench {
    static final int PLAIN = 0;
    static final int STYLED = 1;
    static final int TABLE = 2;
    static final int LIST = 3;

    final Desk desk = new Desk();

    /** Puts a text on the tape, with blanks behind it, and answers its length. */
    int feed(String text) {
        for (int start = 0; start < text.length(); start += 20) {
            int[] words = new int[5];
            for (int k = 0; k < 20; k++) {
                int b = start + k < text.length() ? text.charAt(start + k) : ' ';
                words[k / 4] = words[k / 4] << 8 | b;
            }
            desk.feed(words[0], words[1], words[2], words[3], words[4]);
        }
        return text.length();
    }

    int type(int paper, int place, int style, String text) {
        return desk.type(paper, place, style, feed(text));
    }

    boolean cell(int paper, int row, int column, String text) {
        return desk.cell(paper, row, column, feed(text));
    }

    int item(int paper, int i, int level, String text) {
        return desk.item(paper, i, level, feed(text));
    }

    int row(int make, String text) {
        int paper = desk.paper(make);
        for (int start = 0; start < text.length(); start += 400) {
            type(paper, start, 0, text.substring(start, Math.min(text.length(), start + 400)));
        }
        return paper;
    }

    /** A LIST with these texts; the digit ahead of each is its LEVEL. */
    int list(String... items) {
        int paper = desk.paper(LIST);
        for (int i = 0; i < items.length; i++) {
            item(paper, i, items[i].charAt(0) - '0', items[i].substring(1));
        }
        return paper;
    }

    /** A TABLE whose first CELLS hold these texts. */
    int table(String[]... rows) {
        int paper = desk.paper(TABLE);
        for (int r = 0; r < rows.length; r++) {
            for (int c = 0; c < rows[r].length; c++) {
                cell(paper, r, c, rows[r][c]);
            }
        }
        return paper;
    }

    String out() {
        return out(0, desk.count(5));
    }

    /** The bytes a to b (not b) of OUT. */
    String out(int a, int b) {
        StringBuilder text = new StringBuilder();
        for (int k = a; k < b; k++) {
            text.append((char) desk.told(k));
        }
        return text.toString();
    }

    String form(int piece) {
        return out(0, desk.plain(piece));
    }

    String cellText(int paper, int row, int column) {
        return out(0, desk.cellOf(paper, row, column));
    }

    String bytesOf(int paper) {
        return bytesOf(paper, 0, desk.about(paper, 1));
    }

    /** The bytes of the places a to b (not b). */
    String bytesOf(int paper, int a, int b) {
        StringBuilder text = new StringBuilder();
        for (int k = a; k < b; k++) {
            text.append((char) desk.at(paper, k, 0));
        }
        return text.toString();
    }

    String stylesOf(int paper) {
        return stylesOf(paper, 0, desk.about(paper, 1));
    }

    String stylesOf(int paper, int a, int b) {
        StringBuilder text = new StringBuilder();
        for (int k = a; k < b; k++) {
            text.append(desk.at(paper, k, 1));
        }
        return text.toString();
    }

    String sheetOf(int paper) {
        StringBuilder text = new StringBuilder();
        int total = desk.about(paper, 2);
        for (int s = 0; s < total; s++) {
            text.append(desk.styleOf(paper, s, 0)).append(':').append(desk.styleOf(paper, s, 1)).append(' ');
        }
        return text.toString();
    }

    /** CELLS with a | behind each and a / behind each ROW. */
    String cellsOf(int paper) {
        return cellsOf(paper, 6, 6);
    }

    /** The same of the first ROWS and COLUMNS alone. */
    String cellsOf(int paper, int rows, int columns) {
        StringBuilder text = new StringBuilder();
        for (int r = 0; r < rows; r++) {
            for (int c = 0; c < columns; c++) {
                text.append(cellText(paper, r, c)).append('|');
            }
            text.append('/');
        }
        return text.toString();
    }

    /** Each ITEM as LEVEL, NUMBER, text. */
    String itemsOf(int paper) {
        StringBuilder text = new StringBuilder();
        int total = desk.about(paper, 1);
        for (int i = 0; i < total; i++) {
            int length = desk.textOf(paper, i);
            text.append(desk.itemOf(paper, i, 0)).append(',').append(desk.itemOf(paper, i, 1))
                    .append(',').append(out(0, length)).append(';');
        }
        return text.toString();
    }

    String losses() {
        StringBuilder text = new StringBuilder();
        for (int kind = 0; kind < 8; kind++) {
            text.append(desk.lost(kind)).append(' ');
        }
        return text.toString().trim();
    }
}
