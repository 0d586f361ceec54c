/** A CutDesk that isn't asked more than is promised: 512 calls. */
final class Desk {
    static final int MOST_CALLS = 512;

    private final CutDesk desk = new CutDesk();
    private int calls;

    int calls() {
        return calls;
    }

    private CutDesk next() {
        calls++;
        if (calls > MOST_CALLS) {
            throw new AssertionError("a test makes more than 512 calls on one object");
        }
        return desk;
    }

    int paper(int make) {
        return next().paper(make);
    }

    int feed(int a, int b, int c, int d, int e) {
        return next().feed(a, b, c, d, e);
    }

    int type(int paper, int place, int style, int n) {
        return next().type(paper, place, style, n);
    }

    boolean cell(int paper, int row, int column, int n) {
        return next().cell(paper, row, column, n);
    }

    int item(int paper, int i, int level, int n) {
        return next().item(paper, i, level, n);
    }

    int style(int paper, int name, int look) {
        return next().style(paper, name, look);
    }

    boolean hide(int paper, int row, boolean is) {
        return next().hide(paper, row, is);
    }

    int copyRow(int paper, int a, int b, boolean cut) {
        return next().copyRow(paper, a, b, cut);
    }

    int copyBox(int paper, int row, int column, int toRow, int toColumn, boolean cut) {
        return next().copyBox(paper, row, column, toRow, toColumn, cut);
    }

    int copyItems(int paper, int a, int b, boolean cut) {
        return next().copyItems(paper, a, b, cut);
    }

    int join(int piece, int other) {
        return next().join(piece, other);
    }

    boolean pin(int piece, boolean is) {
        return next().pin(piece, is);
    }

    int piece(int piece, int what) {
        return next().piece(piece, what);
    }

    int putRow(int paper, int piece, int place, int way) {
        return next().putRow(paper, piece, place, way);
    }

    int putBox(int paper, int piece, int row, int column) {
        return next().putBox(paper, piece, row, column);
    }

    int putItems(int paper, int piece, int i, int level) {
        return next().putItems(paper, piece, i, level);
    }

    int lost(int kind) {
        return next().lost(kind);
    }

    boolean undo() {
        return next().undo();
    }

    int about(int paper, int what) {
        return next().about(paper, what);
    }

    int at(int paper, int place, int what) {
        return next().at(paper, place, what);
    }

    int styleOf(int paper, int style, int what) {
        return next().styleOf(paper, style, what);
    }

    int itemOf(int paper, int i, int what) {
        return next().itemOf(paper, i, what);
    }

    int cellOf(int paper, int row, int column) {
        return next().cellOf(paper, row, column);
    }

    int textOf(int paper, int i) {
        return next().textOf(paper, i);
    }

    int plain(int piece) {
        return next().plain(piece);
    }

    int told(int k) {
        return next().told(k);
    }

    int count(int what) {
        return next().count(what);
    }
}
