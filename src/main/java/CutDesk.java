import java.util.Arrays;
import java.util.NoSuchElementException;

/**
 * A desk with papers of four makes and a shelf of pieces that were cut from them.
 *
 * <p>Every row is made once, at the latest when it is first needed, and used again from then on:
 * what a long run of calls makes stays small.
 */
public final class CutDesk {
    public static final int NONE = -1;

    private static final int PLAIN = 0;
    private static final int STYLED = 1;
    private static final int TABLE = 2;
    private static final int LIST = 3;

    private static final int ROW = 0;
    private static final int BOX = 1;
    private static final int ITEMS = 2;

    private static final int TAB = 9;
    private static final int BREAK = 10;
    private static final int BLANK = 32;
    private static final int POINT = 46;
    private static final int ZERO = 48;
    private static final int LAST_CHARACTER = 126;

    private static final int MOST_PAPERS = 6;
    private static final int MOST_PLACES = 1000;
    private static final int MOST_STYLES = 8;
    private static final int MOST_NAME = 99;
    private static final int MOST_LOOK = 999;
    private static final int SIDE = 6;
    private static final int CELLS = 36;
    private static final int MOST_IN_CELL = 20;
    private static final int MOST_ITEMS = 30;
    private static final int MOST_IN_ITEM = 40;
    private static final int MOST_LEVEL = 5;
    private static final int MOST_TAPE = 400;
    private static final int FEED_BYTES = 20;
    private static final int MOST_FORM = 1000;
    private static final int MOST_BOX_ROWS = 12;
    // An ITEM takes at least "1. " and a BREAK of the PLAIN FORM: more can't be in one PIECE.
    private static final int MOST_PIECE_ITEMS = 250;
    private static final int MOST_LOOSE = 6;
    private static final int MOST_PINNED = 4;
    private static final int MOST_ACTS = 20;

    private static final int BY_NAME = 0;
    private static final int BY_LOOK = 1;

    private static final int LOST_STYLES = 0;
    private static final int LOST_LOOKS = 1;
    private static final int LOST_NAMES = 2;
    private static final int LOST_CHARACTERS = 3;
    private static final int LOST_CELLS = 4;
    private static final int LOST_LEVELS = 5;
    private static final int LOST_ITEMS = 6;
    private static final int LOST_HIDDEN = 7;
    private static final int LOSS_KINDS = 8;

    private final Paper[] papers = new Paper[MOST_PAPERS];
    private int paperTotal;
    private final ByteRow tape = new ByteRow(MOST_TAPE);
    private final ByteRow out = new ByteRow(MOST_FORM);
    private final Shelf shelf = new Shelf();
    private final History history = new History();
    private final int[] losses = new int[LOSS_KINDS];

    public CutDesk() {
    }

    public int paper(int make) {
        if (paperTotal >= MOST_PAPERS || make < PLAIN || make > LIST) {
            return NONE;
        }
        int number = paperTotal;
        papers[number] = emptyPaper(make);
        paperTotal++;
        return number;
    }

    public int feed(int a, int b, int c, int d, int e) {
        if (tape.length + FEED_BYTES > MOST_TAPE) {
            return NONE;
        }
        tape.addNumberBytes(a);
        tape.addNumberBytes(b);
        tape.addNumberBytes(c);
        tape.addNumberBytes(d);
        tape.addNumberBytes(e);
        return tape.length;
    }

    public int type(int paper, int place, int style, int n)
            throws NoSuchElementException, IllegalArgumentException {
        Paper target = paperNumbered(paper);
        needOnTape(n);
        int answer = NONE;
        if (target instanceof RowPaper row && tape.startsWithRow(n) && row.canTake(place, style, n)) {
            history.keep(paper, row);
            row.insert(place, style, tape.bytes, n);
            answer = row.size;
        }
        tape.clear();
        return answer;
    }

    public boolean cell(int paper, int row, int column, int n)
            throws NoSuchElementException, IllegalArgumentException {
        Paper target = paperNumbered(paper);
        needOnTape(n);
        boolean answer = false;
        if (target instanceof TablePaper table && isCell(row, column)
                && n <= MOST_IN_CELL && tape.startsWithCharacters(n)) {
            history.keep(paper, table);
            table.write(row, column, tape.bytes, 0, n);
            answer = true;
        }
        tape.clear();
        return answer;
    }

    public int item(int paper, int i, int level, int n)
            throws NoSuchElementException, IllegalArgumentException {
        Paper target = paperNumbered(paper);
        needOnTape(n);
        int answer = NONE;
        if (target instanceof ListPaper list && list.size < MOST_ITEMS && list.isGap(i) && isLevel(level)
                && n <= MOST_IN_ITEM && tape.startsWithCharacters(n)) {
            history.keep(paper, list);
            list.openUp(i, 1);
            list.write(i, level, tape.bytes, 0, n);
            answer = list.size;
        }
        tape.clear();
        return answer;
    }

    public int style(int paper, int name, int look) throws NoSuchElementException {
        Paper target = paperNumbered(paper);
        if (!(target instanceof RowPaper row) || row.make != STYLED
                || name < 0 || name > MOST_NAME || look < 0 || look > MOST_LOOK
                || !row.sheet.hasRoomFor(name)) {
            return NONE;
        }
        history.keep(paper, row);
        return row.sheet.add(name, look);
    }

    public boolean hide(int paper, int row, boolean is) throws NoSuchElementException {
        Paper target = paperNumbered(paper);
        if (!(target instanceof TablePaper table) || !isSide(row)) {
            return false;
        }
        history.keep(paper, table);
        boolean was = table.hidden[row];
        table.hidden[row] = is;
        return was;
    }

    public int copyRow(int paper, int a, int b, boolean cut) throws NoSuchElementException {
        Paper target = paperNumbered(paper);
        if (!(target instanceof RowPaper row) || !isRange(a, b, row.size)) {
            return NONE;
        }
        Piece made = shelf.blank();
        made.takeRow(row, a, b);
        if (cut) {
            history.keep(paper, row);
            row.closeUp(a, b);
        }
        return shelf.add(made);
    }

    public int copyBox(int paper, int row, int column, int toRow, int toColumn, boolean cut)
            throws NoSuchElementException {
        Paper target = paperNumbered(paper);
        if (!(target instanceof TablePaper table) || !isCell(row, column) || !isCell(toRow, toColumn)
                || row > toRow || column > toColumn) {
            return NONE;
        }
        Piece made = shelf.blank();
        if (!made.takeBox(table, row, column, toRow, toColumn)) {
            return NONE;
        }
        if (cut) {
            history.keep(paper, table);
            table.empty(row, column, toRow, toColumn);
        }
        return shelf.add(made);
    }

    public int copyItems(int paper, int a, int b, boolean cut) throws NoSuchElementException {
        Paper target = paperNumbered(paper);
        if (!(target instanceof ListPaper list) || !isRange(a, b, list.size)) {
            return NONE;
        }
        Piece made = shelf.blank();
        if (!made.takeItems(list, a, b)) {
            return NONE;
        }
        if (cut) {
            history.keep(paper, list);
            list.closeUp(a, b);
        }
        return shelf.add(made);
    }

    public int join(int piece, int other) throws NoSuchElementException {
        Piece first = pieceNumbered(piece);
        Piece second = pieceNumbered(other);
        Piece made = shelf.blank();
        return made.takeBoth(first, second) ? shelf.add(made) : NONE;
    }

    public boolean pin(int piece, boolean is) throws NoSuchElementException {
        Piece chosen = pieceNumbered(piece);
        if (chosen.pinned == is || (is && shelf.pinnedTotal() >= MOST_PINNED)) {
            return false;
        }
        chosen.pinned = is;
        shelf.dropEldestIfTooMany();
        return true;
    }

    public int piece(int piece, int what) throws NoSuchElementException {
        Piece chosen = pieceNumbered(piece);
        switch (what) {
            case 0:
                return chosen.sort;
            case 1:
                return chosen.form.length;
            case 2:
                return chosen.rows;
            case 3:
                return chosen.columns;
            case 4:
                return chosen.pinned ? 1 : 0;
            case 5:
                return chosen.hidden;
            default:
                throw new NoSuchElementException("no such fact of a piece");
        }
    }

    public int putRow(int paper, int piece, int place, int way) throws NoSuchElementException {
        Paper target = paperNumbered(paper);
        Piece source = pieceNumbered(piece);
        if (!(target instanceof RowPaper row) || !row.isGap(place) || !row.isWay(way)) {
            return NONE;
        }
        startPut(paper, row, source);
        return row.put(source, place, way, losses);
    }

    public int putBox(int paper, int piece, int row, int column) throws NoSuchElementException {
        Paper target = paperNumbered(paper);
        Piece source = pieceNumbered(piece);
        if (!(target instanceof TablePaper table) || !isCell(row, column)) {
            return NONE;
        }
        startPut(paper, table, source);
        return table.put(source, row, column, losses);
    }

    public int putItems(int paper, int piece, int i, int level) throws NoSuchElementException {
        Paper target = paperNumbered(paper);
        Piece source = pieceNumbered(piece);
        if (!(target instanceof ListPaper list) || !list.isGap(i) || !isLevel(level)) {
            return NONE;
        }
        startPut(paper, list, source);
        return list.put(source, i, level, losses);
    }

    public int lost(int kind) throws NoSuchElementException {
        if (kind < 0 || kind >= LOSS_KINDS) {
            throw new NoSuchElementException("no such kind of losses");
        }
        return losses[kind];
    }

    public boolean undo() {
        return history.takeBack(papers);
    }

    public int about(int paper, int what) throws NoSuchElementException {
        Paper target = paperNumbered(paper);
        switch (what) {
            case 0:
                return target.make;
            case 1:
                return target.extent();
            case 2:
                return target.styleTotal();
            default:
                throw new NoSuchElementException("no such fact of a paper");
        }
    }

    public int at(int paper, int place, int what) throws NoSuchElementException {
        Paper target = paperNumbered(paper);
        if (!(target instanceof RowPaper row) || place < 0 || place >= row.size || what < 0 || what > 1) {
            throw new NoSuchElementException("no such fact of a place");
        }
        return what == 0 ? row.bytes[place] : row.styles[place];
    }

    public int styleOf(int paper, int style, int what) throws NoSuchElementException {
        Paper target = paperNumbered(paper);
        if (!(target instanceof RowPaper row) || row.make != STYLED || !row.sheet.has(style)
                || what < 0 || what > 1) {
            throw new NoSuchElementException("no such fact of a style");
        }
        return what == 0 ? row.sheet.names[style] : row.sheet.looks[style];
    }

    public int itemOf(int paper, int i, int what) throws NoSuchElementException {
        Paper target = paperNumbered(paper);
        if (!(target instanceof ListPaper list) || !list.hasItem(i) || what < 0 || what > 2) {
            throw new NoSuchElementException("no such fact of an item");
        }
        if (what == 0) {
            return list.levels[i];
        }
        return what == 1 ? numberAmong(list.levels, i) : list.lengths[i];
    }

    public int cellOf(int paper, int row, int column) throws NoSuchElementException {
        Paper target = paperNumbered(paper);
        if (!(target instanceof TablePaper table) || !isCell(row, column)) {
            throw new NoSuchElementException("no such cell");
        }
        int index = row * SIDE + column;
        return tell(table.bytes, index * MOST_IN_CELL, table.lengths[index]);
    }

    public int textOf(int paper, int i) throws NoSuchElementException {
        Paper target = paperNumbered(paper);
        if (!(target instanceof ListPaper list) || !list.hasItem(i)) {
            throw new NoSuchElementException("no such item");
        }
        return tell(list.bytes, i * MOST_IN_ITEM, list.lengths[i]);
    }

    public int plain(int piece) throws NoSuchElementException {
        ByteRow form = pieceNumbered(piece).form;
        return tell(form.bytes, 0, form.length);
    }

    public int told(int k) throws NoSuchElementException {
        if (k < 0 || k >= out.length) {
            throw new NoSuchElementException("no such byte");
        }
        return out.bytes[k];
    }

    public int count(int what) throws NoSuchElementException {
        switch (what) {
            case 0:
                return paperTotal;
            case 1:
                return shelf.size;
            case 2:
                return shelf.pinnedTotal();
            case 3:
                return history.kept;
            case 4:
                return tape.length;
            case 5:
                return out.length;
            default:
                throw new NoSuchElementException("no such count");
        }
    }

    private static Paper emptyPaper(int make) {
        if (make == TABLE) {
            return new TablePaper();
        }
        return make == LIST ? new ListPaper() : new RowPaper(make);
    }

    private Paper paperNumbered(int number) {
        Paper found = number >= 0 && number < paperTotal ? papers[number] : null;
        if (found == null) {
            throw new NoSuchElementException("no such paper");
        }
        return found;
    }

    private Piece pieceNumbered(int number) {
        Piece found = shelf.find(number);
        if (found == null) {
            throw new NoSuchElementException("no such piece on the shelf");
        }
        return found;
    }

    private void needOnTape(int n) {
        if (n < 0 || n > tape.length) {
            throw new IllegalArgumentException("the tape has not so many bytes");
        }
    }

    private void startPut(int number, Paper target, Piece source) {
        history.keep(number, target);
        Arrays.fill(losses, 0);
        losses[LOST_HIDDEN] = source.hidden;
    }

    private int tell(byte[] from, int start, int n) {
        out.clear();
        out.addAll(from, start, n);
        return out.length;
    }

    private static boolean isSide(int k) {
        return k >= 0 && k < SIDE;
    }

    private static boolean isCell(int row, int column) {
        return isSide(row) && isSide(column);
    }

    private static boolean isLevel(int level) {
        return level >= 0 && level <= MOST_LEVEL;
    }

    private static boolean isRange(int a, int b, int size) {
        return a >= 0 && a < b && b <= size;
    }

    private static boolean isCharacter(int b) {
        return b >= BLANK && b <= LAST_CHARACTER;
    }

    /** The NUMBER of the i-th of ITEMS with these LEVELS: those of its own LEVEL back to a lesser one. */
    private static int numberAmong(byte[] levels, int i) {
        if (i < 0 || i >= levels.length) {
            return 0;
        }
        int number = 1;
        for (int j = i - 1; j >= 0 && levels[j] >= levels[i]; j--) {
            if (levels[j] == levels[i]) {
                number++;
            }
        }
        return number;
    }

    /** Bytes up to a fixed number; what has no room is left out, and that is marked. */
    private static final class ByteRow {
        final byte[] bytes;
        int length;
        boolean over;

        ByteRow(int most) {
            bytes = new byte[Math.max(most, 0)];
        }

        void clear() {
            length = 0;
            over = false;
        }

        void add(int b) {
            if (length >= bytes.length) {
                over = true;
                return;
            }
            bytes[length] = (byte) b;
            length++;
        }

        void addAll(byte[] from, int start, int n) {
            if (start < 0 || n < 0 || n > from.length - start || n > bytes.length - length) {
                over = true;
                return;
            }
            System.arraycopy(from, start, bytes, length, n);
            length += n;
        }

        void addNumberBytes(int number) {
            add(number >>> 24);
            add(number >>> 16);
            add(number >>> 8);
            add(number);
        }

        void addDecimal(int number) {
            if (number >= 100) {
                add(ZERO + number / 100 % 10);
            }
            if (number >= 10) {
                add(ZERO + number / 10 % 10);
            }
            add(ZERO + number % 10);
        }

        boolean startsWithCharacters(int n) {
            for (int k = 0; k < n && k < length; k++) {
                if (!isCharacter(bytes[k])) {
                    return false;
                }
            }
            return true;
        }

        boolean startsWithRow(int n) {
            for (int k = 0; k < n && k < length; k++) {
                if (!isCharacter(bytes[k]) && bytes[k] != BREAK && bytes[k] != TAB) {
                    return false;
                }
            }
            return true;
        }
    }

    /** What the desk and its history ask of every make. */
    private abstract static class Paper {
        final int make;

        Paper(int make) {
            this.make = make;
        }

        abstract int extent();

        int styleTotal() {
            return NONE;
        }

        /** This paper becomes as the other one, which is of the same make. */
        abstract void become(Paper other);
    }

    /** The STYLES of a paper; number 0 has NAME 0 and LOOK 0, always. */
    private static final class StyleSheet {
        final int[] names = new int[MOST_STYLES];
        final int[] looks = new int[MOST_STYLES];
        int size = 1;

        boolean has(int style) {
            return style >= 0 && style < size;
        }

        boolean hasRoomFor(int name) {
            return size < MOST_STYLES && indexIn(names, name) == NONE;
        }

        int add(int name, int look) {
            if (size >= MOST_STYLES) {
                return NONE;
            }
            int style = size;
            names[style] = name;
            looks[style] = look;
            size++;
            return style;
        }

        /** The STYLE that one of another paper is met by, a new one if need be; 0 if it can't come. */
        int meet(int name, int look, int way) {
            int found = way == BY_NAME ? indexIn(names, name) : indexIn(looks, look);
            if (found != NONE) {
                return found;
            }
            return hasRoomFor(name) ? add(name, look) : 0;
        }

        /** What is lost when a STYLE of that NAME and LOOK was met by this one; NONE: nothing. */
        int lossOf(int name, int look, int way, int style) {
            if (style <= 0 || style >= size) {
                return way == BY_LOOK && look == 0 ? LOST_NAMES : LOST_STYLES;
            }
            if (looks[style] != look) {
                return LOST_LOOKS;
            }
            return names[style] != name ? LOST_NAMES : NONE;
        }

        void become(StyleSheet other) {
            size = other.size;
            System.arraycopy(other.names, 0, names, 0, MOST_STYLES);
            System.arraycopy(other.looks, 0, looks, 0, MOST_STYLES);
        }

        private int indexIn(int[] row, int wanted) {
            for (int k = 0; k < size && k < row.length; k++) {
                if (row[k] == wanted) {
                    return k;
                }
            }
            return NONE;
        }
    }

    /** A PLAIN or a STYLED paper; the places of a PLAIN one are all of STYLE 0. */
    private static final class RowPaper extends Paper {
        final byte[] bytes = new byte[MOST_PLACES];
        final byte[] styles = new byte[MOST_PLACES];
        final StyleSheet sheet = new StyleSheet();
        int size;

        RowPaper(int make) {
            super(make);
        }

        int extent() {
            return size;
        }

        int styleTotal() {
            return make == STYLED ? sheet.size : NONE;
        }

        void become(Paper other) {
            if (other instanceof RowPaper row) {
                size = row.size;
                System.arraycopy(row.bytes, 0, bytes, 0, size);
                System.arraycopy(row.styles, 0, styles, 0, size);
                sheet.become(row.sheet);
            }
        }

        boolean isGap(int place) {
            return place >= 0 && place <= size;
        }

        boolean isWay(int way) {
            return make == PLAIN || way == BY_NAME || way == BY_LOOK;
        }

        boolean canTake(int place, int style, int n) {
            return isGap(place) && n <= MOST_PLACES - size && (make == PLAIN || sheet.has(style));
        }

        void insert(int place, int style, byte[] from, int n) {
            openUp(place, n);
            System.arraycopy(from, 0, bytes, place, n);
            for (int k = place; k < place + n; k++) {
                styles[k] = (byte) (make == PLAIN ? 0 : style);
            }
        }

        void closeUp(int a, int b) {
            System.arraycopy(bytes, b, bytes, a, size - b);
            System.arraycopy(styles, b, styles, a, size - b);
            size -= b - a;
        }

        int put(Piece source, int place, int way, int[] losses) {
            int came = Math.min(source.form.length, MOST_PLACES - size);
            losses[LOST_CHARACTERS] = source.form.length - came;
            insert(place, 0, source.form.bytes, came);
            if (make == PLAIN) {
                losses[LOST_STYLES] = source.styledPlaces(came);
            } else {
                putStyles(source, place, came, way, losses);
            }
            return came;
        }

        private void openUp(int place, int n) {
            System.arraycopy(bytes, place, bytes, place + n, size - place);
            System.arraycopy(styles, place, styles, place + n, size - place);
            size += n;
        }

        private void putStyles(Piece source, int place, int came, int way, int[] losses) {
            for (int k = 0; k < came; k++) {
                int code = source.codeAt(k);
                if (code != 0) {
                    int style = styleFor(source, place, k, way);
                    int loss = sheet.lossOf(nameOf(code), lookOf(code), way, style);
                    styles[place + k] = (byte) style;
                    if (loss != NONE) {
                        losses[loss]++;
                    }
                }
            }
        }

        /** A STYLE is met once, where it comes first: STYLES made since then don't change it. */
        private int styleFor(Piece source, int place, int k, int way) {
            int code = source.codeAt(k);
            for (int j = k - 1; j >= 0; j--) {
                if (source.codeAt(j) == code) {
                    return styles[place + j];
                }
            }
            return sheet.meet(nameOf(code), lookOf(code), way);
        }
    }

    private static final class TablePaper extends Paper {
        final byte[] bytes = new byte[CELLS * MOST_IN_CELL];
        final byte[] lengths = new byte[CELLS];
        final boolean[] hidden = new boolean[SIDE];

        TablePaper() {
            super(TABLE);
        }

        int extent() {
            return CELLS;
        }

        void become(Paper other) {
            if (other instanceof TablePaper table) {
                System.arraycopy(table.bytes, 0, bytes, 0, bytes.length);
                System.arraycopy(table.lengths, 0, lengths, 0, CELLS);
                for (int r = 0; r < SIDE; r++) {
                    hidden[r] = table.hidden[r];
                }
            }
        }

        void write(int row, int column, byte[] from, int start, int n) {
            int index = row * SIDE + column;
            System.arraycopy(from, start, bytes, index * MOST_IN_CELL, n);
            lengths[index] = (byte) n;
        }

        void empty(int row, int column, int toRow, int toColumn) {
            for (int r = row; r <= toRow; r++) {
                for (int c = column; c <= toColumn && !hidden[r]; c++) {
                    lengths[r * SIDE + c] = 0;
                }
            }
        }

        /** A BOX's PLAIN FORM, too, parts into just its CELLS, as no CELL holds a TAB or BREAK. */
        int put(Piece source, int row, int column, int[] losses) {
            ByteRow form = source.form;
            losses[LOST_STYLES] = source.styledPlaces(form.length);
            int came = 0;
            int start = 0;
            int r = row;
            int c = column;
            for (int k = 0; k <= form.length; k++) {
                int b = k < form.length ? form.bytes[k] : BREAK;
                if (b == TAB || b == BREAK) {
                    came += putPart(form.bytes, start, k - start, r, c, losses);
                    start = k + 1;
                    r = b == BREAK ? r + 1 : r;
                    c = b == BREAK ? column : c + 1;
                }
            }
            return came;
        }

        private int putPart(byte[] from, int start, int n, int row, int column, int[] losses) {
            if (!isCell(row, column)) {
                losses[LOST_CELLS] += n > 0 ? 1 : 0;
                return 0;
            }
            int taken = Math.min(n, MOST_IN_CELL);
            losses[LOST_CHARACTERS] += n - taken;
            write(row, column, from, start, taken);
            return 1;
        }
    }

    private static final class ListPaper extends Paper {
        final byte[] bytes = new byte[MOST_ITEMS * MOST_IN_ITEM];
        final byte[] lengths = new byte[MOST_ITEMS];
        final byte[] levels = new byte[MOST_ITEMS];
        int size;

        ListPaper() {
            super(LIST);
        }

        int extent() {
            return size;
        }

        void become(Paper other) {
            if (other instanceof ListPaper list) {
                size = list.size;
                System.arraycopy(list.bytes, 0, bytes, 0, size * MOST_IN_ITEM);
                System.arraycopy(list.lengths, 0, lengths, 0, size);
                System.arraycopy(list.levels, 0, levels, 0, size);
            }
        }

        boolean hasItem(int i) {
            return i >= 0 && i < size;
        }

        boolean isGap(int i) {
            return i >= 0 && i <= size;
        }

        void openUp(int i, int n) {
            shift(i, i + n);
            size += n;
        }

        void closeUp(int a, int b) {
            shift(b, a);
            size -= b - a;
        }

        void write(int i, int level, byte[] from, int start, int n) {
            System.arraycopy(from, start, bytes, i * MOST_IN_ITEM, n);
            lengths[i] = (byte) n;
            levels[i] = (byte) level;
        }

        int put(Piece source, int i, int level, int[] losses) {
            int coming = source.partsAsItems();
            int came = Math.min(coming, MOST_ITEMS - size);
            losses[LOST_ITEMS] = coming - came;
            losses[LOST_STYLES] = source.styledPlaces(source.form.length);
            openUp(i, came);
            if (source.sort == ITEMS) {
                putWhole(source, i, came, level, losses);
            } else {
                putParts(source.form, i, came, level, losses);
            }
            return came;
        }

        private void shift(int from, int to) {
            int moved = size - from;
            System.arraycopy(bytes, from * MOST_IN_ITEM, bytes, to * MOST_IN_ITEM, moved * MOST_IN_ITEM);
            System.arraycopy(lengths, from, lengths, to, moved);
            System.arraycopy(levels, from, levels, to, moved);
        }

        private void putWhole(Piece source, int i, int came, int level, int[] losses) {
            int more = level - source.levels[0];
            for (int k = 0; k < came; k++) {
                int wanted = source.levels[k] + more;
                int given = Math.max(0, Math.min(wanted, MOST_LEVEL));
                losses[LOST_LEVELS] += given != wanted ? 1 : 0;
                write(i + k, given, source.form.bytes, source.starts[k], source.lengths[k]);
            }
        }

        private void putParts(ByteRow form, int i, int came, int level, int[] losses) {
            int start = 0;
            int done = 0;
            for (int k = 0; k <= form.length && done < came; k++) {
                if (k == form.length || form.bytes[k] == BREAK) {
                    int taken = Math.min(k - start, MOST_IN_ITEM);
                    losses[LOST_CHARACTERS] += k - start - taken;
                    write(i + done, level, form.bytes, start, taken);
                    blankTabs(i + done);
                    start = k + 1;
                    done++;
                }
            }
        }

        private void blankTabs(int i) {
            int first = i * MOST_IN_ITEM;
            for (int k = first; k < first + lengths[i]; k++) {
                if (bytes[k] == TAB) {
                    bytes[k] = BLANK;
                }
            }
        }
    }

    // A STYLE in a PIECE is its NAME and LOOK in one number; only STYLE 0 has NAME 0, so it is 0.
    private static int codeOf(int name, int look) {
        return name * (MOST_LOOK + 1) + look;
    }

    private static int nameOf(int code) {
        return code / (MOST_LOOK + 1);
    }

    private static int lookOf(int code) {
        return code % (MOST_LOOK + 1);
    }

    /** A ROW, a BOX or ITEMS, held as the PLAIN FORM and what it takes to find the parts in it. */
    private static final class Piece {
        final ByteRow form = new ByteRow(MOST_FORM);
        final int[] codes = new int[MOST_FORM];
        final byte[] levels = new byte[MOST_PIECE_ITEMS];
        final int[] starts = new int[MOST_PIECE_ITEMS];
        final byte[] lengths = new byte[MOST_PIECE_ITEMS];
        int number;
        int sort;
        int rows;
        int columns;
        int hidden;
        boolean pinned;

        void takeRow(RowPaper row, int a, int b) {
            startAs(ROW, NONE, NONE);
            form.addAll(row.bytes, a, b - a);
            for (int k = 0; k < form.length; k++) {
                int style = row.styles[a + k];
                codes[k] = row.sheet.has(style) ? codeOf(row.sheet.names[style], row.sheet.looks[style]) : 0;
            }
        }

        /** False: all ROWS are HIDDEN. */
        boolean takeBox(TablePaper table, int row, int column, int toRow, int toColumn) {
            startAs(BOX, 0, toColumn - column + 1);
            for (int r = row; r <= toRow; r++) {
                if (table.hidden[r]) {
                    hidden++;
                } else {
                    takeBoxRow(table, r, column, toColumn);
                }
            }
            return rows > 0 && !form.over;
        }

        /** False: the PLAIN FORM would be too long. */
        boolean takeItems(ListPaper list, int a, int b) {
            startAs(ITEMS, b - a, NONE);
            System.arraycopy(list.levels, a, levels, 0, rows);
            int least = leastLevel();
            for (int k = 0; k < rows; k++) {
                addItem(k, least, list.bytes, (a + k) * MOST_IN_ITEM, list.lengths[a + k]);
            }
            return !form.over;
        }

        /** False: the PLAIN FORM would be too long. */
        boolean takeBoth(Piece first, Piece second) {
            if (first.sort == ROW && second.sort == ROW) {
                takeRows(first, second);
            } else if (first.sort == ITEMS && second.sort == ITEMS) {
                takeAllItems(first, second);
            } else {
                takeForms(first, second);
            }
            hidden = first.hidden + second.hidden;
            return !form.over;
        }

        int codeAt(int k) {
            return sort == ROW && k >= 0 && k < form.length ? codes[k] : 0;
        }

        int styledPlaces(int n) {
            int total = 0;
            for (int k = 0; k < n; k++) {
                total += codeAt(k) != 0 ? 1 : 0;
            }
            return total;
        }

        int partsAsItems() {
            if (sort == ITEMS) {
                return rows;
            }
            int parts = 1;
            for (int k = 0; k < form.length; k++) {
                parts += form.bytes[k] == BREAK ? 1 : 0;
            }
            return parts;
        }

        private void startAs(int newSort, int newRows, int newColumns) {
            form.clear();
            sort = newSort;
            rows = newRows;
            columns = newColumns;
            hidden = 0;
            pinned = false;
        }

        private void takeBoxRow(TablePaper table, int r, int column, int toColumn) {
            if (rows > 0) {
                form.add(BREAK);
            }
            for (int c = column; c <= toColumn; c++) {
                if (c > column) {
                    form.add(TAB);
                }
                int index = r * SIDE + c;
                form.addAll(table.bytes, index * MOST_IN_CELL, table.lengths[index]);
            }
            rows++;
        }

        private int leastLevel() {
            int least = MOST_LEVEL;
            for (int k = 0; k < rows; k++) {
                least = Math.min(least, levels[k]);
            }
            return least;
        }

        private void addItem(int k, int least, byte[] from, int start, int n) {
            if (k > 0) {
                form.add(BREAK);
            }
            for (int blanks = 2 * (levels[k] - least); blanks > 0; blanks--) {
                form.add(BLANK);
            }
            form.addDecimal(numberAmong(levels, k));
            form.add(POINT);
            form.add(BLANK);
            starts[k] = form.length;
            lengths[k] = (byte) n;
            form.addAll(from, start, n);
        }

        private void takeRows(Piece first, Piece second) {
            startAs(ROW, NONE, NONE);
            form.addAll(first.form.bytes, 0, first.form.length);
            form.addAll(second.form.bytes, 0, second.form.length);
            if (!form.over) {
                System.arraycopy(first.codes, 0, codes, 0, first.form.length);
                System.arraycopy(second.codes, 0, codes, first.form.length, second.form.length);
            }
        }

        private void takeAllItems(Piece first, Piece second) {
            startAs(ITEMS, first.rows + second.rows, NONE);
            if (rows > MOST_PIECE_ITEMS) {
                form.over = true;
                return;
            }
            System.arraycopy(first.levels, 0, levels, 0, first.rows);
            System.arraycopy(second.levels, 0, levels, first.rows, second.rows);
            int least = leastLevel();
            for (int k = 0; k < rows; k++) {
                Piece from = k < first.rows ? first : second;
                int i = k < first.rows ? k : k - first.rows;
                addItem(k, least, from.form.bytes, from.starts[i], from.lengths[i]);
            }
        }

        /** Two BOXES below one another have the same PLAIN FORM as the ROW that unlike sorts make. */
        private void takeForms(Piece first, Piece second) {
            boolean stack = first.sort == BOX && second.sort == BOX && first.columns == second.columns
                    && first.rows + second.rows <= MOST_BOX_ROWS;
            if (stack) {
                startAs(BOX, first.rows + second.rows, first.columns);
            } else {
                startAs(ROW, NONE, NONE);
                Arrays.fill(codes, 0);
            }
            form.addAll(first.form.bytes, 0, first.form.length);
            form.add(BREAK);
            form.addAll(second.form.bytes, 0, second.form.length);
        }
    }

    /** The PIECES by age; behind them stand those that went, to be used again. */
    private static final class Shelf {
        final Piece[] pieces = new Piece[MOST_LOOSE + MOST_PINNED + 1];
        int size;
        int nextNumber;

        /** A PIECE that isn't on the shelf, to be filled; it comes onto the shelf by add alone. */
        Piece blank() {
            if (size >= pieces.length) {
                return new Piece();
            }
            if (pieces[size] == null) {
                pieces[size] = new Piece();
            }
            return pieces[size];
        }

        int add(Piece made) {
            if (size >= pieces.length) {
                return NONE;
            }
            pieces[size] = made;
            made.number = nextNumber;
            nextNumber++;
            size++;
            dropEldestIfTooMany();
            return made.number;
        }

        Piece find(int number) {
            for (int k = 0; k < size; k++) {
                if (pieces[k].number == number) {
                    return pieces[k];
                }
            }
            return null;
        }

        int pinnedTotal() {
            int total = 0;
            for (int k = 0; k < size; k++) {
                total += pieces[k].pinned ? 1 : 0;
            }
            return total;
        }

        void dropEldestIfTooMany() {
            if (size - pinnedTotal() <= MOST_LOOSE) {
                return;
            }
            for (int k = 0; k < size; k++) {
                if (!pieces[k].pinned) {
                    drop(k);
                    return;
                }
            }
        }

        private void drop(int k) {
            Piece gone = pieces[k];
            for (int j = k; j + 1 < size; j++) {
                pieces[j] = pieces[j + 1];
            }
            size--;
            pieces[size] = gone;
        }
    }

    /** The latest ACTS, each as the one paper that it changed, as that was ahead of it. */
    private static final class History {
        final Paper[] befores = new Paper[MOST_ACTS];
        final int[] numbers = new int[MOST_ACTS];
        int first;
        int kept;

        void keep(int number, Paper paper) {
            int slot = (first + kept) % MOST_ACTS;
            if (kept == MOST_ACTS) {
                first = (first + 1) % MOST_ACTS;
            } else {
                kept++;
            }
            if (befores[slot] == null || befores[slot].make != paper.make) {
                befores[slot] = emptyPaper(paper.make);
            }
            befores[slot].become(paper);
            numbers[slot] = number;
        }

        /** The two papers change places, so that the one that is left serves for another ACT. */
        boolean takeBack(Paper[] papers) {
            if (kept == 0) {
                return false;
            }
            kept--;
            int slot = (first + kept) % MOST_ACTS;
            int number = numbers[slot];
            Paper after = papers[number];
            papers[number] = befores[slot];
            befores[slot] = after;
            return true;
        }
    }
}
