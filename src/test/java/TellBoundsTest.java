/** The bounds that the Terms' NUMBER and promises 20 to 28 name, each sentence by itself. */
public final class TellBoundsTest {
    private static final int MIN = Integer.MIN_VALUE;
    private static final int MAX = Integer.MAX_VALUE;

    private static final Check check = new Check();
    private static final Twins twins = new Twins(check);

    public static void main(String[] args) {
        tellingNeedsAPaper();
        factsOfAPaper();
        placesAndStylesCounted();
        anotherFactOfAPaper();
        placesOfARow();
        noSuchPlace();
        anotherFactOfAPlace();
        atAnotherMake();
        stylesOfAPaper();
        noSuchStyle();
        styleOfAnotherMake();
        numberFromOneOn();
        numberOfItsLevel();
        lesserLevelBetween();
        numberUpToThirty();
        noSuchItem();
        itemOfAnotherMake();
        cellOfEveryCell();
        noSuchCell();
        cellOfAnotherMake();
        textOfEveryItem();
        textOfAnotherMake();
        plainOfEveryPiece();
        noSuchPiece();
        outBecomesTheLatest();
        bytesOfOut();
        countsOfADesk();
        countsOfAFullDesk();
        anotherCount();
        askingChangesNothing();
        theLastCall();
        check.end();
    }

    /** "NoSuchElementException: no such PAPER (as everywhere)" */
    private static void tellingNeedsAPaper() {
        for (int paper : new int[] {MIN, -1, 4, 5, 6, MAX}) {
            twins.noSuch("about, paper " + paper, Twins.FED, d -> d.about(paper, 0));
            twins.noSuch("at, paper " + paper, Twins.FED, d -> d.at(paper, 0, 0));
            twins.noSuch("styleOf, paper " + paper, Twins.FED, d -> d.styleOf(paper, 0, 0));
            twins.noSuch("itemOf, paper " + paper, Twins.FED, d -> d.itemOf(paper, 0, 0));
            twins.noSuch("cellOf, paper " + paper, Twins.FED, d -> d.cellOf(paper, 0, 0));
            twins.noSuch("textOf, paper " + paper, Twins.FED, d -> d.textOf(paper, 0));
        }
    }

    /** "0 its MAKE, 1 places of a row, ITEMS, 36 of a TABLE, 2 STYLES (NONE of others)" */
    private static void factsOfAPaper() {
        int[][] due = {{0, 7, -1}, {1, 3, 3}, {2, 36, -1}, {3, 3, -1}};
        int[][] empty = {{0, 0, -1}, {1, 0, 1}, {2, 36, -1}, {3, 0, -1}};
        Desk fresh = new Desk();
        for (int paper = 0; paper < 4; paper++) {
            fresh.paper(paper);
            for (int what = 0; what < 3; what++) {
                int p = paper;
                int fact = what;
                twins.unchanged("about paper " + paper + ", " + what, Twins.FED, d -> d.about(p, fact),
                        "" + due[paper][what]);
                check.same("about an empty paper " + paper + ", " + what, fresh.about(paper, what), empty[paper][what]);
            }
        }
    }

    /** The same, from empty to full. */
    private static void placesAndStylesCounted() {
        Bench b = new Bench();
        int plain = b.row(0, "x".repeat(1000));
        int styled = b.row(1, "y".repeat(999));
        int list = b.desk.paper(3);
        check.same("1,000 places", b.desk.about(plain, 1), 1000);
        check.same("999 places", b.desk.about(styled, 1), 999);
        for (int k = 1; k <= 30; k++) {
            b.desk.item(list, 0, 0, 0);
            check.same("items", b.desk.about(list, 1), k);
        }
        for (int style = 1; style < 8; style++) {
            b.desk.style(styled, style, 0);
            check.same("styles", b.desk.about(styled, 2), style + 1);
        }
    }

    /** "NoSuchElementException: another what." */
    private static void anotherFactOfAPaper() {
        for (int what : new int[] {MIN, -1, 3, 4, MAX}) {
            for (int paper = 0; paper < 4; paper++) {
                int p = paper;
                twins.noSuch("about paper " + paper + ", " + what, Twins.FED, d -> d.about(p, what));
            }
        }
    }

    /** "Of a place of a row: 0 its byte, 1 its STYLE (0 of PLAIN)" */
    private static void placesOfARow() {
        Bench b = new Bench();
        Twins.FED.on(b);
        check.same("plain", b.bytesOf(0), "axyzb\tc");
        check.same("plain styles", b.stylesOf(0), "0000000");
        check.same("styled", b.bytesOf(1), "xyz");
        check.same("styles", b.stylesOf(1), "120");
    }

    /** "NoSuchElementException: .. no such place" */
    private static void noSuchPlace() {
        for (int what = 0; what < 2; what++) {
            int fact = what;
            for (int place : new int[] {MIN, -1, 7, 8, 999, 1000, MAX}) {
                twins.noSuch("at place " + place + " of PLAIN", Twins.FED, d -> d.at(0, place, fact));
            }
            for (int place : new int[] {MIN, -1, 3, 4, 999, 1000, MAX}) {
                twins.noSuch("at place " + place + " of STYLED", Twins.FED, d -> d.at(1, place, fact));
            }
            Bench b = new Bench();
            int row = b.desk.paper(what);
            check.noSuch("place 0 of an empty one", () -> b.desk.at(row, 0, fact));
            b.type(row, 0, 0, "ab");
            check.same("the last", b.desk.at(row, 1, 0), 'b');
            b.desk.copyRow(row, 0, 1, true);
            check.same("the last then", b.desk.at(row, 0, 0), 'b');
            check.noSuch("a place that went", () -> b.desk.at(row, 1, fact));
            b.desk.undo();
            check.same("and is back", b.desk.at(row, 1, 0), 'b');
        }
    }

    /** "NoSuchElementException: .. what" */
    private static void anotherFactOfAPlace() {
        for (int what : new int[] {MIN, -1, 2, 3, MAX}) {
            twins.noSuch("at, what " + what + " of PLAIN", Twins.FED, d -> d.at(0, 0, what));
            twins.noSuch("at, what " + what + " of STYLED", Twins.FED, d -> d.at(1, 0, what));
            twins.noSuch("styleOf, what " + what, Twins.FED, d -> d.styleOf(1, 0, what));
            twins.noSuch("styleOf the last, what " + what, Twins.FED, d -> d.styleOf(1, 2, what));
        }
        for (int what : new int[] {MIN, -1, 3, 4, MAX}) {
            twins.noSuch("itemOf, what " + what, Twins.FED, d -> d.itemOf(3, 0, what));
        }
    }

    /** "NoSuchElementException: another MAKE" */
    private static void atAnotherMake() {
        for (int what = 0; what < 2; what++) {
            int fact = what;
            twins.noSuch("at of a TABLE", Twins.FED, d -> d.at(2, 0, fact));
            twins.noSuch("at of a LIST", Twins.FED, d -> d.at(3, 0, fact));
        }
    }

    /** "Of a STYLE: 0 its NAME, 1 its LOOK." */
    private static void stylesOfAPaper() {
        int[][] due = {{0, 0}, {5, 50}, {6, 60}};
        for (int style = 0; style < 3; style++) {
            for (int what = 0; what < 2; what++) {
                int of = style;
                int fact = what;
                twins.unchanged("styleOf " + style + ", " + what, Twins.FED, d -> d.styleOf(1, of, fact),
                        "" + due[style][what]);
            }
        }
    }

    /** "NoSuchElementException: .. no such STYLE" */
    private static void noSuchStyle() {
        for (int style : new int[] {MIN, -1, 3, 7, 8, MAX}) {
            twins.noSuch("styleOf " + style + ", 0", Twins.FED, d -> d.styleOf(1, style, 0));
            twins.noSuch("styleOf " + style + ", 1", Twins.FED, d -> d.styleOf(1, style, 1));
        }
        Desk desk = new Desk();
        desk.paper(1);
        for (int style = 1; style < 8; style++) {
            int of = style;
            check.noSuch("not yet", () -> desk.styleOf(0, of, 0));
            desk.style(0, 90 + style, 990 + style);
            check.same("its name", desk.styleOf(0, style, 0), 90 + style);
            check.same("its look", desk.styleOf(0, style, 1), 990 + style);
        }
        check.noSuch("style 8", () -> desk.styleOf(0, 8, 0));
        desk.undo();
        check.noSuch("one that was undone", () -> desk.styleOf(0, 7, 0));
        check.same("the one ahead", desk.styleOf(0, 6, 0), 96);
    }

    /** "NoSuchElementException: another MAKE": PLAIN has no STYLES to tell of. */
    private static void styleOfAnotherMake() {
        for (int paper : new int[] {0, 2, 3}) {
            twins.noSuch("styleOf paper " + paper, Twins.FED, d -> d.styleOf(paper, 0, 0));
        }
    }

    private static void checkNumbers(String levels, int... due) {
        Bench b = new Bench();
        int list = b.desk.paper(3);
        for (int i = 0; i < levels.length(); i++) {
            b.desk.item(list, i, levels.charAt(i) - '0', 0);
        }
        for (int i = 0; i < due.length; i++) {
            check.same("number of item " + i + " of " + levels, b.desk.itemOf(list, i, 1), due[i]);
            check.same("level", b.desk.itemOf(list, i, 0), levels.charAt(i) - '0');
        }
    }

    /** "else 1": there is none of its LEVEL ahead of it. */
    private static void numberFromOneOn() {
        for (int level = 0; level < 6; level++) {
            checkNumbers("" + level, 1);
        }
        checkNumbers("012345", 1, 1, 1, 1, 1, 1);
        checkNumbers("543210", 1, 1, 1, 1, 1, 1);
    }

    /** "1 more than that of the last ITEM ahead of it of its LEVEL": greater LEVELS between don't matter. */
    private static void numberOfItsLevel() {
        checkNumbers("000", 1, 2, 3);
        checkNumbers("555", 1, 2, 3);
        checkNumbers("0150", 1, 1, 1, 2);
        checkNumbers("050105", 1, 1, 2, 1, 3, 1);
        checkNumbers("121312", 1, 1, 2, 1, 3, 1);
    }

    /** "if no ITEM of a lesser LEVEL is between them; else 1" */
    private static void lesserLevelBetween() {
        checkNumbers("101", 1, 1, 1);
        checkNumbers("545", 1, 1, 1);
        checkNumbers("5505", 1, 2, 1, 1);
        checkNumbers("22122", 1, 2, 1, 1, 2);
        checkNumbers("10101", 1, 1, 1, 2, 1);
        checkNumbers("21012", 1, 1, 1, 1, 1);
    }

    /** A LIST of 30: the NUMBERS go so far. */
    private static void numberUpToThirty() {
        int[] due = new int[30];
        for (int i = 0; i < 30; i++) {
            due[i] = i + 1;
        }
        checkNumbers("0".repeat(30), due);
        checkNumbers("5".repeat(30), due);
    }

    /** "NoSuchElementException: .. no such ITEM" */
    private static void noSuchItem() {
        for (int i : new int[] {MIN, -1, 3, 4, 29, 30, MAX}) {
            for (int what = 0; what < 3; what++) {
                int fact = what;
                twins.noSuch("itemOf " + i + ", " + what, Twins.FED, d -> d.itemOf(3, i, fact));
            }
            twins.noSuch("textOf " + i, Twins.FED, d -> d.textOf(3, i));
        }
        Desk desk = new Desk();
        desk.paper(3);
        check.noSuch("item 0 of an empty one", () -> desk.itemOf(0, 0, 0));
        check.noSuch("text 0 of an empty one", () -> desk.textOf(0, 0));
        for (int i = 0; i < 30; i++) {
            desk.item(0, i, 0, 0);
        }
        check.same("the thirtieth", desk.itemOf(0, 29, 1), 30);
        check.same("its text", desk.textOf(0, 29), 0);
        check.noSuch("no thirty-first", () -> desk.itemOf(0, 30, 0));
        check.noSuch("nor its text", () -> desk.textOf(0, 30));
        desk.copyItems(0, 0, 1, true);
        check.noSuch("one that went", () -> desk.itemOf(0, 29, 0));
        check.noSuch("nor its text", () -> desk.textOf(0, 29));
    }

    /** "NoSuchElementException: another MAKE" */
    private static void itemOfAnotherMake() {
        for (int paper = 0; paper < 3; paper++) {
            for (int what = 0; what < 3; what++) {
                int p = paper;
                int fact = what;
                twins.noSuch("itemOf paper " + paper, Twins.FED, d -> d.itemOf(p, 0, fact));
            }
        }
    }

    /** "OUT becomes the bytes of a CELL: how many": from none to 20. */
    private static void cellOfEveryCell() {
        for (int n : new int[] {0, 1, 19, 20}) {
            Bench b = new Bench();
            int table = b.desk.paper(2);
            for (int corner = 0; corner < 4; corner++) {
                int row = corner / 2 * 5;
                int column = corner % 2 * 5;
                String text = "abcdefghijklmnopqrstuvwxyz".substring(corner, corner + n);
                b.cell(table, row, column, text);
                check.same("bytes", b.desk.cellOf(table, row, column), n);
                check.same("out", b.desk.count(5), n);
                check.same("text", b.out(), text);
            }
        }
    }

    /** "NoSuchElementException: .. no such CELL" */
    private static void noSuchCell() {
        for (int wrong : new int[] {MIN, -1, 6, 7, 36, MAX}) {
            twins.noSuch("cellOf row " + wrong, Twins.FED, d -> d.cellOf(2, wrong, 0));
            twins.noSuch("cellOf column " + wrong, Twins.FED, d -> d.cellOf(2, 0, wrong));
            twins.noSuch("cellOf both " + wrong, Twins.FED, d -> d.cellOf(2, wrong, wrong));
        }
        twins.noSuch("cellOf row 5, column 6", Twins.FED, d -> d.cellOf(2, 5, 6));
        twins.noSuch("cellOf row 6, column 5", Twins.FED, d -> d.cellOf(2, 6, 5));
        twins.noSuch("cellOf row 1, column -1", Twins.FED, d -> d.cellOf(2, 1, -1));
    }

    /** "NoSuchElementException: another MAKE" */
    private static void cellOfAnotherMake() {
        for (int paper : new int[] {0, 1, 3}) {
            twins.noSuch("cellOf paper " + paper, Twins.FED, d -> d.cellOf(paper, 0, 0));
        }
    }

    /** "OUT becomes the bytes of an ITEM: how many": from none to 40. */
    private static void textOfEveryItem() {
        String text = "abcdefghijklmnopqrstuvwxyzABCDEFGHIJKLMN";
        Bench b = new Bench();
        int list = b.list("0", "1a", "2" + text.substring(1), "3" + text);
        int[] due = {0, 1, 39, 40};
        for (int i = 0; i < 4; i++) {
            check.same("bytes", b.desk.textOf(list, i), due[i]);
            check.same("bytes told", b.desk.itemOf(list, i, 2), due[i]);
            check.same("out", b.desk.count(5), due[i]);
            check.same("text", b.out(), new String[] {"", "a", text.substring(1), text}[i]);
        }
    }

    /** "NoSuchElementException: another MAKE" */
    private static void textOfAnotherMake() {
        for (int paper = 0; paper < 3; paper++) {
            int p = paper;
            twins.noSuch("textOf paper " + paper, Twins.FED, d -> d.textOf(p, 0));
        }
    }

    /** "OUT becomes the PLAIN FORM of a PIECE: how many bytes": from none to 1,000. */
    private static void plainOfEveryPiece() {
        for (int n : new int[] {1, 2, 999, 1000}) {
            Bench b = new Bench();
            int row = b.row(0, "f".repeat(n - 1) + "l");
            b.desk.copyRow(row, 0, n, false);
            check.same("bytes", b.desk.plain(0), n);
            check.same("bytes told", b.desk.piece(0, 1), n);
            check.same("out", b.desk.count(5), n);
            check.same("the last", b.desk.told(n - 1), 'l');
            check.noSuch("no more", () -> b.desk.told(n));
        }
        Bench b = new Bench();
        int table = b.desk.paper(2);
        b.desk.copyBox(table, 0, 0, 0, 0, false);
        check.same("an empty one", b.desk.plain(0), 0);
        check.noSuch("no byte", () -> b.desk.told(0));
    }

    /** "no such PIECE on THE SHELF (as everywhere)" */
    private static void noSuchPiece() {
        Bench b = new Bench();
        int plain = b.row(0, "abcdefg");
        for (int k = 0; k < 7; k++) {
            int piece = k;
            check.noSuch("not yet", () -> b.desk.plain(piece));
            b.desk.copyRow(plain, k, k + 1, false);
            check.same("form", b.form(k), "" + (char) ('a' + k));
        }
        check.noSuch("one that went", () -> b.desk.plain(0));
        check.same("out stays", b.out(), "g");
    }

    /** "OUT becomes": nothing of what it was is left, and a refused call leaves it. */
    private static void outBecomesTheLatest() {
        Bench b = new Bench();
        int table = b.table(new String[] {"cell"});
        int list = b.list("0a longer item");
        b.desk.copyItems(list, 0, 1, false);
        check.same("plain", b.desk.plain(0), 16);
        check.same("cell", b.desk.cellOf(table, 0, 0), 4);
        check.same("out", b.out(), "cell");
        check.noSuch("no byte 4", () -> b.desk.told(4));
        check.same("item", b.desk.textOf(list, 0), 13);
        check.same("out", b.out(), "a longer item");
        check.noSuch("no cell", () -> b.desk.cellOf(table, 6, 6));
        check.noSuch("no item", () -> b.desk.textOf(list, 1));
        check.noSuch("no piece", () -> b.desk.plain(1));
        check.same("out stays", b.out(), "a longer item");
        check.same("an empty cell", b.desk.cellOf(table, 5, 5), 0);
        check.same("out is empty", b.desk.count(5), 0);
        check.noSuch("no byte 0", () -> b.desk.told(0));
    }

    /** "Byte k of OUT. NoSuchElementException: there is none." */
    private static void bytesOfOut() {
        for (int k : new int[] {MIN, -1, 15, 16, 999, 1000, MAX}) {
            twins.noSuch("told " + k, Twins.FED, d -> d.told(k));
        }
        String due = "1. one\n  1. two";
        for (int k = 0; k < 15; k++) {
            int byteOf = k;
            twins.unchanged("told " + k, Twins.FED, d -> d.told(byteOf), "" + (int) due.charAt(k));
        }
    }

    /** "0 PAPERS, 1 PIECES on THE SHELF, 2 PINNED ones, 3 ACTS that are kept, 4 bytes of the tape, 5 of OUT" */
    private static void countsOfADesk() {
        int[] due = {4, 3, 1, 14, 20, 15};
        for (int what = 0; what < 6; what++) {
            int of = what;
            twins.unchanged("count " + what, Twins.FED, d -> d.count(of), "" + due[what]);
            check.same("count " + what + " of a new one", new Desk().count(what), 0);
        }
    }

    /** The most that each of them can be. */
    private static void countsOfAFullDesk() {
        Bench b = new Bench();
        int plain = b.row(0, "x".repeat(1000));
        for (int k = 0; k < 6; k++) {
            b.desk.paper(2);
        }
        for (int k = 0; k < 12; k++) {
            b.desk.copyRow(plain, 0, 1000, false);
            b.desk.pin(k, true);
        }
        for (int k = 0; k < 22; k++) {
            b.desk.hide(1, 0, true);
        }
        b.feed("y".repeat(400));
        b.feed("y");
        b.desk.plain(11);
        int[] due = {6, 10, 4, 20, 400, 1000};
        for (int what = 0; what < 6; what++) {
            check.same("count " + what, b.desk.count(what), due[what]);
        }
    }

    /** "NoSuchElementException: another what." */
    private static void anotherCount() {
        for (int what : new int[] {MIN, -1, 6, 7, MAX}) {
            twins.noSuch("count " + what, Twins.FED, d -> d.count(what));
        }
    }

    /** What only tells leaves all as it is; of what tells by OUT, OUT alone is another. */
    private static void askingChangesNothing() {
        twins.unchanged("at", Twins.FED, d -> d.at(1, 1, 1), "2");
        twins.unchanged("itemOf", Twins.FED, d -> d.itemOf(3, 2, 0), "2");
        twins.unchanged("plain of what OUT is", Twins.FED, d -> d.plain(2), "15");
        Bench b = new Bench();
        Twins.FED.on(b);
        b.desk.textOf(3, 2);
        b.desk.cellOf(2, 0, 0);
        b.desk.plain(2);
        Bench twin = new Bench();
        Twins.FED.on(twin);
        check.same("all is as it was", Sight.of(b), Sight.of(twin));
    }

    /** "at most 512 calls": the last of them answers as any other. */
    private static void theLastCall() {
        Bench b = new Bench();
        b.row(0, "ab");
        for (int k = 0; k < 508; k++) {
            check.same("a copy", b.desk.copyRow(0, k % 2, 2, false), k);
        }
        check.same("six", b.desk.count(1), 6);
        check.same("calls", b.desk.calls(), 512);
        Bench acts = new Bench();
        acts.desk.paper(2);
        for (int k = 0; k < 510; k++) {
            check.same("hidden", acts.desk.hide(0, k % 5, k / 5 % 2 == 0) ? 1 : 0, k / 5 % 2);
        }
        check.same("twenty", acts.desk.count(3), 20);
    }
}
