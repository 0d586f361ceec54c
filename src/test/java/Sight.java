/**
 * What is seen of a desk, as a text: OUT, the counts, LOSSES, papers, PIECES, which ROWS are HIDDEN, what
 * UNDO brings back, and the tape. Of long texts the ends are read alone, as the calls of one object are
 * few; the STYLES inside a PIECE aren't read. Looking changes the desk, so that it comes last.
 */
final class Sight {
    private static final int MOST_PIECES = 14;

    private final Desk desk;
    private final StringBuilder text = new StringBuilder();

    private Sight(Desk desk) {
        this.desk = desk;
    }

    static String of(Bench b) {
        Sight sight = new Sight(b.desk);
        sight.out(sight.desk.count(5));
        sight.counts();
        sight.papers();
        sight.pieces();
        sight.copies();
        sight.undoAll();
        sight.papers();
        sight.tape();
        return sight.text.toString();
    }

    private void add(String what, long answer) {
        text.append(what).append(answer);
    }

    /** The ends of a long text tell enough. */
    private static boolean isSample(int k, int n, int most) {
        return k < most || k >= n - most;
    }

    private void out(int n) {
        add(" =", n);
        for (int k = 0; k < n; k++) {
            if (isSample(k, n, 3)) {
                add(".", desk.told(k));
            }
        }
    }

    private void counts() {
        for (int what = 0; what < 5; what++) {
            add(" count ", desk.count(what));
        }
        for (int kind = 0; kind < 8; kind++) {
            add(" lost ", desk.lost(kind));
        }
    }

    private void papers() {
        int total = desk.count(0);
        for (int p = 0; p < total; p++) {
            int make = desk.about(p, 0);
            int n = desk.about(p, 1);
            add("\npaper ", make);
            add(" ", n);
            if (make == Bench.TABLE) {
                cells(p);
            } else if (make == Bench.LIST) {
                items(p, n);
            } else {
                places(p, n);
                styles(p);
            }
        }
    }

    private void places(int p, int n) {
        for (int k = 0; k < n; k++) {
            if (isSample(k, n, 5)) {
                add(" ", desk.at(p, k, 0));
                add(":", desk.at(p, k, 1));
            }
        }
    }

    private void styles(int p) {
        int total = desk.about(p, 2);
        for (int s = 0; s < total; s++) {
            add(" style ", desk.styleOf(p, s, 0));
            add(":", desk.styleOf(p, s, 1));
        }
    }

    private void cells(int p) {
        for (int k = 0; k < 36; k++) {
            out(desk.cellOf(p, k / 6, k % 6));
        }
    }

    private void items(int p, int n) {
        for (int i = 0; i < n; i++) {
            if (isSample(i, n, 3)) {
                add(" item ", desk.itemOf(p, i, 0));
                add(",", desk.itemOf(p, i, 1));
                out(desk.textOf(p, i));
            }
        }
    }

    private boolean isThere(int piece) {
        return !Check.answerOf(() -> desk.piece(piece, 0)).equals(Check.NO_SUCH);
    }

    private void pieces() {
        for (int piece = 0; piece < MOST_PIECES; piece++) {
            if (isThere(piece)) {
                add("\npiece ", piece);
                for (int what = 0; what < 6; what++) {
                    add(" ", desk.piece(piece, what));
                }
                out(desk.plain(piece));
            }
        }
    }

    /** The next numbers, which PIECES go for them, and which ROWS are HIDDEN. */
    private void copies() {
        int total = desk.count(0);
        for (int p = 0; p < total; p++) {
            int make = desk.about(p, 0);
            if (make == Bench.TABLE) {
                for (int r = 0; r < 6; r++) {
                    add(" box ", desk.copyBox(p, r, 0, r, 0, false));
                }
            } else {
                add(" copy ", make == Bench.LIST ? desk.copyItems(p, 0, 1, false) : desk.copyRow(p, 0, 1, false));
            }
        }
        for (int piece = 0; piece < MOST_PIECES; piece++) {
            text.append(isThere(piece) ? " +" : " -");
        }
    }

    private void undoAll() {
        int times = 0;
        while (desk.undo()) {
            times++;
        }
        add("\nundo ", times);
    }

    private void tape() {
        int total = desk.count(0);
        for (int p = 0; p < total; p++) {
            if (desk.about(p, 0) < Bench.TABLE && desk.count(4) > 0) {
                add("\ntyped ", desk.type(p, 0, 0, desk.count(4)));
                places(p, desk.about(p, 1));
            }
        }
    }
}
