/** The bounds that part 2 (PIECES, THE SHELF) and promises 9 to 14 name, each sentence by itself. */
public final class PieceBoundsTest {
    private static final int MIN = Integer.MIN_VALUE;
    private static final int MAX = Integer.MAX_VALUE;

    private static final Check check = new Check();
    private static final Twins twins = new Twins(check);

    public static void main(String[] args) {
        numberedFromZeroOn();
        copyingNeedsAPaper();
        placesOfARow();
        noSuchPlaces();
        aThousandPlaces();
        cutPlacesGo();
        copyRowAnotherMake();
        rowOfPlainIsStyleZero();
        oneNameAndLookAreOneStyle();
        cellsFromAndTo();
        noSuchCells();
        wrongWayRound();
        hiddenRowsAreLeftOut();
        allRowsHidden();
        cutCellsAreEmpty();
        copyBoxAnotherMake();
        theLongestBox();
        itemsFromAndTo();
        noSuchItems();
        cutItemsGo();
        copyItemsAnotherMake();
        blanksOfLevels();
        numbersInThePiece();
        itemsOfAThousandBytes();
        sixThatAreNotPinned();
        eldestThatIsNotPinned();
        refusedLeavesTheShelf();
        whatWentLeavesNothing();
        joinNeedsPieces();
        joinedRows();
        joinedItems();
        manyJoinedItems();
        twelveRowsOfABox();
        columnsAlike();
        joinedRowsOfAThousand();
        joinedBoxesOfAThousand();
        joinedItemsOfAThousand();
        joinedUnlikeOfAThousand();
        toldIsAddedUp();
        fourPinned();
        pinnedAsTold();
        pinnedNoMore();
        pinNeedsAPiece();
        factsOfAPiece();
        check.end();
    }

    /** "PIECES, numbered from 0 on": a number isn't used for what didn't come, nor used again. */
    private static void numberedFromZeroOn() {
        Bench b = new Bench();
        int plain = b.row(0, "abc");
        check.same("none", b.desk.copyRow(plain, 0, 4, false), -1);
        for (int k = 0; k < 20; k++) {
            check.same("number", b.desk.copyRow(plain, 0, 3, false), k);
        }
        check.same("of a cut", b.desk.copyRow(plain, 0, 1, true), 20);
        b.desk.undo();
        check.same("behind an undo", b.desk.copyRow(plain, 0, 1, true), 21);
        check.same("of a join", b.desk.join(20, 21), 22);
        check.same("none again", b.desk.copyRow(plain, 2, 2, false), -1);
        check.same("the next", b.desk.copyRow(plain, 0, 1, false), 23);
        check.noSuch("a number that was", () -> b.desk.piece(0, 0));
        check.noSuch("a number to come", () -> b.desk.piece(24, 0));
    }

    /** "NoSuchElementException: no such PAPER (as everywhere)" */
    private static void copyingNeedsAPaper() {
        for (int paper : new int[] {MIN, -1, 4, 5, 6, MAX}) {
            twins.noSuch("copyRow, paper " + paper, Twins.FED, d -> d.copyRow(paper, 0, 1, true));
            twins.noSuch("copyBox, paper " + paper, Twins.FED, d -> d.copyBox(paper, 0, 0, 0, 0, true));
            twins.noSuch("copyItems, paper " + paper, Twins.FED, d -> d.copyItems(paper, 0, 1, true));
        }
    }

    /** "places a to b (not b) of a row"; "At least one place" */
    private static void placesOfARow() {
        for (int make = 0; make < 2; make++) {
            Bench b = new Bench();
            int row = b.row(make, "abcde");
            for (int from = 0; from < 5; from++) {
                for (int to = from + 1; to <= 5; to++) {
                    int piece = b.desk.copyRow(row, from, to, false);
                    check.same(from + " to " + to, b.form(piece), "abcde".substring(from, to));
                }
            }
            check.same("the paper stays", b.bytesOf(row), "abcde");
        }
    }

    /** "NONE: another MAKE, no such places, none." */
    private static void noSuchPlaces() {
        int[][] wrong = {{MIN, 1}, {-1, 1}, {-1, 0}, {0, 0}, {1, 1}, {3, 3}, {2, 1}, {0, 4}, {2, 4}, {3, 4}, {4, 4},
            {4, 5}, {0, MAX}, {MAX, MAX}, {MAX, MIN}, {MIN, MIN}, {MIN, MAX}, {0, MIN}, {0, -1}, {1, 0}};
        for (int[] places : wrong) {
            for (boolean cut : new boolean[] {false, true}) {
                twins.none("copyRow " + places[0] + " to " + places[1], Twins.FED,
                        d -> d.copyRow(1, places[0], places[1], cut));
                twins.none("copyItems " + places[0] + " to " + places[1], Twins.FED,
                        d -> d.copyItems(3, places[0], places[1], cut));
            }
        }
        Desk desk = new Desk();
        desk.paper(0);
        desk.paper(1);
        check.same("none of an empty one", desk.copyRow(0, 0, 0, true), -1);
        check.same("one of an empty one", desk.copyRow(1, 0, 1, true), -1);
        check.same("no act", desk.count(3), 0);
    }

    /** "1,000 at most": all of them are one PIECE. */
    private static void aThousandPlaces() {
        for (int make = 0; make < 2; make++) {
            Bench b = new Bench();
            int row = b.row(make, "f" + "x".repeat(998) + "l");
            check.same("1,001 places", b.desk.copyRow(row, 0, 1001, true), -1);
            check.same("1,000 places", b.desk.copyRow(row, 0, 1000, true), 0);
            check.same("their form", b.desk.plain(0), 1000);
            check.same("first", b.desk.told(0), 'f');
            check.same("last", b.desk.told(999), 'l');
            check.noSuch("no more", () -> b.desk.told(1000));
            check.same("nothing is left", b.desk.about(row, 1), 0);
        }
    }

    /** "CUT: likewise, and then those places .. go" */
    private static void cutPlacesGo() {
        int[][] cuts = {{0, 1}, {0, 3}, {1, 2}, {1, 3}, {2, 3}};
        for (int[] cut : cuts) {
            Bench b = new Bench();
            int styled = b.desk.paper(1);
            b.desk.style(styled, 1, 1);
            b.desk.style(styled, 2, 2);
            for (int k = 0; k < 3; k++) {
                b.type(styled, k, k, "" + (char) ('a' + k));
            }
            b.desk.copyRow(styled, cut[0], cut[1], true);
            check.same("cut", b.form(0), "abc".substring(cut[0], cut[1]));
            check.same("left", b.bytesOf(styled), "abc".substring(0, cut[0]) + "abc".substring(cut[1]));
            check.same("their styles", b.stylesOf(styled), "012".substring(0, cut[0]) + "012".substring(cut[1]));
            check.same("its styles stay", b.desk.about(styled, 2), 3);
        }
    }

    /** "NONE: another MAKE" */
    private static void copyRowAnotherMake() {
        for (int paper : new int[] {2, 3}) {
            twins.none("copyRow of paper " + paper, Twins.FED, d -> d.copyRow(paper, 0, 1, true));
        }
    }

    /** "a ROW (of PLAIN: all STYLE 0" */
    private static void rowOfPlainIsStyleZero() {
        Bench b = new Bench();
        int plain = b.desk.paper(0);
        b.type(plain, 0, 5, "ab");
        int styled = b.desk.paper(1);
        b.desk.style(styled, 5, 5);
        b.desk.copyRow(plain, 0, 2, false);
        b.desk.putRow(styled, 0, 0, 0);
        check.same("style 0", b.stylesOf(styled), "00");
        check.same("no new style", b.desk.about(styled, 2), 2);
        check.same("no losses", b.losses(), "0 0 0 0 0 0 0 0");
    }

    /** "with the STYLES of its places: two of one NAME and LOOK are one" */
    private static void oneNameAndLookAreOneStyle() {
        Bench b = new Bench();
        int[][] styles = {{7, 70}, {7, 71}, {8, 70}};
        for (int k = 0; k < 3; k++) {
            int from = b.desk.paper(1);
            for (int other = 0; other <= k; other++) {
                b.desk.style(from, 90 + other, 900);
            }
            int style = b.desk.style(from, styles[k][0], styles[k][1]);
            b.type(from, 0, style, "ab");
            b.desk.copyRow(from, 0, 2, false);
        }
        int same = b.desk.paper(1);
        b.desk.style(same, 91, 1);
        b.type(same, 0, b.desk.style(same, 7, 70), "c");
        b.desk.copyRow(same, 0, 1, false);
        int to = b.desk.paper(1);
        for (int style = 1; style < 7; style++) {
            b.desk.style(to, style, style);
        }
        b.desk.join(0, 3);
        check.same("one style for both", b.desk.putRow(to, 4, 0, 0), 3);
        check.same("the last that there is room for", b.stylesOf(to), "777");
        check.same("nothing is lost", b.losses(), "0 0 0 0 0 0 0 0");
        b.desk.undo();
        b.desk.join(0, 1);
        b.desk.putRow(to, 5, 0, 1);
        check.same("another look is another style", b.stylesOf(to), "7700");
        check.same("that can't come", b.losses(), "2 0 0 0 0 0 0 0");
        b.desk.undo();
        b.desk.join(0, 2);
        b.desk.putRow(to, 6, 0, 0);
        check.same("another name is another style", b.stylesOf(to), "7700");
        check.same("that can't come either", b.losses(), "2 0 0 0 0 0 0 0");
    }

    private static int fullTable(Bench b) {
        int table = b.desk.paper(2);
        for (int k = 0; k < 36; k++) {
            b.cell(table, k / 6, k % 6, "" + (char) ('A' + k));
        }
        return table;
    }

    private static String formOfBox(int row, int column, int toRow, int toColumn) {
        StringBuilder text = new StringBuilder();
        for (int r = row; r <= toRow; r++) {
            for (int c = column; c <= toColumn; c++) {
                text.append((char) ('A' + r * 6 + c)).append(c < toColumn ? "\t" : r < toRow ? "\n" : "");
            }
        }
        return text.toString();
    }

    /** "CELLS from ROW and COLUMN to ROW and COLUMN (those, too" */
    private static void cellsFromAndTo() {
        int[][] boxes = {{0, 0, 0, 0}, {5, 5, 5, 5}, {0, 0, 5, 5}, {2, 3, 2, 5}, {1, 4, 4, 4}, {3, 0, 5, 1}};
        for (int[] box : boxes) {
            Bench b = new Bench();
            int table = fullTable(b);
            check.same("box", b.desk.copyBox(table, box[0], box[1], box[2], box[3], false), 0);
            check.same("form", b.form(0), formOfBox(box[0], box[1], box[2], box[3]));
            check.same("rows", b.desk.piece(0, 2), box[2] - box[0] + 1);
            check.same("columns", b.desk.piece(0, 3), box[3] - box[1] + 1);
            check.same("none hidden", b.desk.piece(0, 5), 0);
        }
    }

    /** "NONE: another MAKE, no such CELLS" */
    private static void noSuchCells() {
        for (int wrong : new int[] {MIN, -1, 6, 7, MAX}) {
            for (boolean cut : new boolean[] {false, true}) {
                twins.none("row " + wrong, Twins.FED, d -> d.copyBox(2, wrong, 0, 5, 5, cut));
                twins.none("column " + wrong, Twins.FED, d -> d.copyBox(2, 0, wrong, 5, 5, cut));
                twins.none("to row " + wrong, Twins.FED, d -> d.copyBox(2, 0, 0, wrong, 5, cut));
                twins.none("to column " + wrong, Twins.FED, d -> d.copyBox(2, 0, 0, 5, wrong, cut));
                twins.none("all " + wrong, Twins.FED, d -> d.copyBox(2, wrong, wrong, wrong, wrong, cut));
            }
        }
    }

    /** "ROWS or COLUMNS the wrong way round" */
    private static void wrongWayRound() {
        twins.none("rows", Twins.FED, d -> d.copyBox(2, 1, 0, 0, 5, true));
        twins.none("columns", Twins.FED, d -> d.copyBox(2, 0, 1, 5, 0, true));
        twins.none("both", Twins.FED, d -> d.copyBox(2, 5, 5, 0, 0, true));
        twins.none("rows by one", Twins.FED, d -> d.copyBox(2, 5, 0, 4, 0, false));
        twins.none("columns by one", Twins.FED, d -> d.copyBox(2, 0, 5, 0, 4, false));
        Bench b = new Bench();
        fullTable(b);
        check.same("one row, one column", b.desk.copyBox(0, 4, 4, 4, 4, false), 0);
    }

    /** "HIDDEN ROWS in it are left out and told: how many" */
    private static void hiddenRowsAreLeftOut() {
        for (int hidden = 0; hidden < 64; hidden++) {
            Bench b = new Bench();
            int table = fullTable(b);
            for (int row = 0; row < 6; row++) {
                b.desk.hide(table, row, (hidden >> row & 1) == 1);
            }
            StringBuilder form = new StringBuilder();
            int rows = 0;
            for (int row = 1; row <= 4; row++) {
                if ((hidden >> row & 1) == 0) {
                    form.append(rows > 0 ? "\n" : "").append(formOfBox(row, 2, row, 3));
                    rows++;
                }
            }
            int piece = b.desk.copyBox(table, 1, 2, 4, 3, false);
            check.same("hidden " + hidden, piece, rows > 0 ? 0 : -1);
            if (rows > 0) {
                check.same("form of " + hidden, b.form(piece), form.toString());
                check.same("rows of " + hidden, b.desk.piece(piece, 2), rows);
                check.same("told of " + hidden, b.desk.piece(piece, 5), 4 - rows);
            }
        }
    }

    /** "At least one .. CELL of a ROW that isn't HIDDEN"; "NONE: .. all HIDDEN" */
    private static void allRowsHidden() {
        twins.none("the hidden row alone", Twins.FED, d -> d.copyBox(2, 2, 0, 2, 5, true));
        Twins.Story two = b -> {
            Twins.FED.on(b);
            b.desk.hide(2, 3, true);
        };
        twins.none("both hidden rows", two, d -> d.copyBox(2, 2, 0, 3, 5, true));
        twins.none("both hidden rows, copied", two, d -> d.copyBox(2, 2, 4, 3, 4, false));
        Bench b = new Bench();
        two.on(b);
        check.same("one more row", b.desk.copyBox(2, 2, 0, 4, 0, true), 3);
        check.same("two are told", b.desk.piece(3, 5), 2);
        check.same("one is there", b.desk.piece(3, 2), 1);
    }

    /** "those CELLS (not of HIDDEN ROWS) are empty" */
    private static void cutCellsAreEmpty() {
        Bench b = new Bench();
        int table = fullTable(b);
        b.desk.hide(table, 1, true);
        check.same("cut", b.desk.copyBox(table, 0, 1, 2, 2, true), 0);
        check.same("left", b.cellsOf(table), "A|||D|E|F|/G|H|I|J|K|L|/M|||P|Q|R|/S|T|U|V|W|X|/"
                + "Y|Z|[|\\|]|^|/_|`|a|b|c|d|/");
        check.same("the other cells", b.desk.copyBox(table, 3, 0, 5, 5, true), 1);
        check.same("are empty, too", b.cellsOf(table), "A|||D|E|F|/G|H|I|J|K|L|/M|||P|Q|R|/" + "||||||/".repeat(3));
        check.same("empty cells are copied", b.form(b.desk.copyBox(table, 2, 1, 3, 2, false)), "\t\n\t");
        check.isTrue("the row is still hidden", b.desk.hide(table, 1, true));
        check.isFalse("no other is", b.desk.hide(table, 0, true));
    }

    /** "NONE: another MAKE" */
    private static void copyBoxAnotherMake() {
        for (int paper : new int[] {0, 1, 3}) {
            twins.none("copyBox of paper " + paper, Twins.FED, d -> d.copyBox(paper, 0, 0, 0, 0, true));
        }
    }

    /** The longest BOX that can be COPIED has less than 1,000 bytes, and comes. */
    private static void theLongestBox() {
        Bench b = new Bench();
        int table = b.desk.paper(2);
        b.cell(table, 0, 0, "x".repeat(20));
        b.desk.copyBox(table, 0, 0, 0, 0, false);
        for (int k = 1; k < 36; k++) {
            b.desk.putBox(table, 0, k / 6, k % 6);
        }
        check.same("all of it", b.desk.copyBox(table, 0, 0, 5, 5, true), 1);
        check.same("its bytes", b.desk.piece(1, 1), 36 * 20 + 30 + 5);
        check.same("are empty", b.cellsOf(table), "||||||/".repeat(6));
    }

    /** "ITEMS a to b (not b)"; "At least one .. ITEM" */
    private static void itemsFromAndTo() {
        Bench b = new Bench();
        int list = b.list("0a", "0b", "0c", "0d");
        for (int from = 0; from < 4; from++) {
            for (int to = from + 1; to <= 4; to++) {
                int piece = b.desk.copyItems(list, from, to, false);
                StringBuilder due = new StringBuilder();
                for (int i = from; i < to; i++) {
                    due.append(i > from ? "\n" : "").append(i - from + 1).append(". ").append((char) ('a' + i));
                }
                check.same(from + " to " + to, b.form(piece), due.toString());
                check.same("items", b.desk.piece(piece, 2), to - from);
            }
        }
        check.same("the list stays", b.itemsOf(list), "0,1,a;0,2,b;0,3,c;0,4,d;");
    }

    /** "ITEMS a to b likewise": no such ITEMS, none; of an empty LIST and of a full one. */
    private static void noSuchItems() {
        Bench b = new Bench();
        int list = b.desk.paper(3);
        check.same("none of an empty one", b.desk.copyItems(list, 0, 0, true), -1);
        check.same("one of an empty one", b.desk.copyItems(list, 0, 1, true), -1);
        for (int i = 0; i < 30; i++) {
            b.desk.item(list, i, 0, 0);
        }
        check.same("31", b.desk.copyItems(list, 0, 31, false), -1);
        check.same("behind the last", b.desk.copyItems(list, 30, 31, false), -1);
        check.same("the last", b.desk.copyItems(list, 29, 30, false), 0);
        check.same("30", b.desk.copyItems(list, 0, 30, false), 1);
        check.same("are there", b.desk.piece(1, 2), 30);
        check.same("cut", b.desk.copyItems(list, 0, 30, true), 2);
        check.same("all went", b.desk.about(list, 1), 0);
    }

    /** "CUT: likewise, and then those .. ITEMS go" */
    private static void cutItemsGo() {
        int[][] cuts = {{0, 1}, {0, 3}, {1, 2}, {1, 3}, {2, 3}};
        String[] left = {"1,1,bb;2,1,ccc;", "", "0,1,a;2,1,ccc;", "0,1,a;", "0,1,a;1,1,bb;"};
        String[] forms = {"1. a", "1. a\n  1. bb\n    1. ccc", "1. bb", "1. bb\n  1. ccc", "1. ccc"};
        for (int k = 0; k < cuts.length; k++) {
            Bench b = new Bench();
            int list = b.list("0a", "1bb", "2ccc");
            check.same("cut", b.desk.copyItems(list, cuts[k][0], cuts[k][1], true), 0);
            check.same("form", b.form(0), forms[k]);
            check.same("left", b.itemsOf(list), left[k]);
        }
    }

    /** "NONE: another MAKE" */
    private static void copyItemsAnotherMake() {
        for (int paper : new int[] {0, 1, 2}) {
            twins.none("copyItems of paper " + paper, Twins.FED, d -> d.copyItems(paper, 0, 1, true));
        }
    }

    /** "each with two blanks for each LEVEL above the least of the PIECE" */
    private static void blanksOfLevels() {
        Bench b = new Bench();
        int list = b.list("5a", "4b", "0c", "5d", "3e");
        check.same("least last", b.form(b.desk.copyItems(list, 0, 3, false)), " ".repeat(10) + "1. a\n"
                + " ".repeat(8) + "1. b\n1. c");
        check.same("least first", b.form(b.desk.copyItems(list, 2, 4, false)), "1. c\n" + " ".repeat(10) + "1. d");
        check.same("the greatest alone", b.form(b.desk.copyItems(list, 0, 1, false)), "1. a");
        check.same("least between 3 and 5", b.form(b.desk.copyItems(list, 3, 5, false)), "    1. d\n1. e");
    }

    /** "its NUMBER in the PIECE (as of a LIST of these ITEMS alone)" */
    private static void numbersInThePiece() {
        Bench b = new Bench();
        int list = b.list("0a", "0b", "1c", "1d", "0e", "1f");
        check.same("in the list", b.desk.itemOf(list, 4, 1), 3);
        check.same("in the piece", b.form(b.desk.copyItems(list, 3, 6, false)), "  1. d\n1. e\n  1. f");
        check.same("from 1 on", b.form(b.desk.copyItems(list, 1, 5, false)), "1. b\n  1. c\n  2. d\n2. e");
        int many = b.desk.paper(3);
        for (int i = 0; i < 30; i++) {
            b.desk.item(many, i, 0, 0);
        }
        b.desk.copyItems(many, 0, 30, false);
        check.same("bytes of 9 of one digit and 21 of two", b.desk.plain(2), 9 * 3 + 21 * 4 + 29);
        check.same("9, 10, 11", b.out(32, 45), "9. \n10. \n11. ");
        check.same("30", b.out(136, 140), "30. ");
    }

    /** 22 ITEMS of 40 bytes and one of that many: 985 bytes and those. */
    private static void longList(Bench b, int lastBytes) {
        int list = b.list("0" + "f".repeat(40));
        int piece = b.desk.copyItems(list, 0, 1, false);
        for (int i = 1; i < 22; i++) {
            b.desk.putItems(list, piece, i, 0);
        }
        b.item(list, 22, 0, "l".repeat(lastBytes));
    }

    /** "A PIECE has at most 1,000 bytes in its PLAIN FORM (COPIED, CUT .. that would be more: none comes)" */
    private static void itemsOfAThousandBytes() {
        for (int bytes = 14; bytes <= 15; bytes++) {
            Bench b = new Bench();
            longList(b, bytes);
            check.same("copied", b.desk.copyItems(0, 0, 23, false), 1);
            check.same("bytes", b.desk.piece(1, 1), 985 + bytes);
            check.same("cut", b.desk.copyItems(0, 0, 23, true), 2);
            check.same("all went", b.desk.about(0, 1), 0);
            check.same("the form", b.desk.plain(2), 985 + bytes);
            check.same("its end", b.out(980, 987), "\n23. ll");
        }
        for (int bytes : new int[] {16, 17, 40}) {
            twins.none("copied", b -> longList(b, bytes), d -> d.copyItems(0, 0, 23, false));
            twins.none("cut", b -> longList(b, bytes), d -> d.copyItems(0, 0, 23, true));
            Bench b = new Bench();
            longList(b, bytes);
            check.same("without the first", b.desk.copyItems(0, 1, 23, true), 1);
        }
        Bench b = new Bench();
        longList(b, 15);
        b.desk.copyItems(0, 22, 23, true);
        b.item(0, 22, 1, "l".repeat(15));
        check.same("a digit less and two blanks are 1,001", b.desk.copyItems(0, 0, 23, true), -1);
        b.desk.undo();
        b.item(0, 22, 1, "l".repeat(14));
        check.same("and 1,000", b.desk.copyItems(0, 0, 23, true), 2);
    }

    /** "when there are 6 of them that aren't PINNED and one more comes, the eldest .. goes" */
    private static void sixThatAreNotPinned() {
        Bench b = new Bench();
        int plain = b.row(0, "abcdefgh");
        for (int k = 0; k < 6; k++) {
            b.desk.copyRow(plain, k, k + 1, false);
            check.same("all are there", b.desk.count(1), k + 1);
        }
        check.same("the eldest of six", b.form(0), "a");
        check.same("one more", b.desk.copyRow(plain, 6, 7, true), 6);
        check.same("six again", b.desk.count(1), 6);
        check.noSuch("the eldest went", () -> b.desk.piece(0, 0));
        for (int k = 1; k < 7; k++) {
            check.same("the others stay", b.form(k), "" + (char) ('a' + k));
        }
        check.same("a join is one more, too", b.desk.join(1, 1), 7);
        check.noSuch("the eldest went for it", () -> b.desk.plain(1));
        check.same("what was joined is in it", b.form(7), "bb");
        check.same("the next eldest", b.form(2), "c");
    }

    /** The same of those that aren't PINNED, whichever are. */
    private static void eldestThatIsNotPinned() {
        for (int pinned = 0; pinned < 64; pinned++) {
            int total = Integer.bitCount(pinned);
            if (total > 4) {
                continue;
            }
            Bench b = new Bench();
            int plain = b.row(0, "abcdef");
            for (int k = 0; k < 6; k++) {
                b.desk.copyRow(plain, k, k + 1, false);
            }
            for (int k = 0; k < 6; k++) {
                if ((pinned >> k & 1) == 1) {
                    check.isTrue("pinned", b.desk.pin(k, true));
                }
            }
            for (int k = 0; k < total; k++) {
                b.desk.copyRow(plain, 0, 1, false);
                check.same("there is room", b.desk.count(1), 7 + k);
            }
            b.desk.copyRow(plain, 0, 1, false);
            check.same("there is none", b.desk.count(1), 6 + total);
            int eldest = Integer.numberOfTrailingZeros(~pinned);
            for (int k = 0; k < 6; k++) {
                int piece = k;
                check.same("piece " + k + " of " + pinned, Check.answerOf(() -> b.desk.piece(piece, 4)),
                        k == eldest ? Check.NO_SUCH : "" + (pinned >> k & 1));
            }
        }
    }

    /** What is refused brings no PIECE, and none goes for it. */
    private static void refusedLeavesTheShelf() {
        Twins.Story full = b -> {
            int plain = b.row(0, "x".repeat(600));
            b.desk.paper(2);
            b.list("0a");
            for (int k = 0; k < 6; k++) {
                b.desk.copyRow(plain, k, 600, false);
            }
        };
        twins.none("a join of too many bytes", full, d -> d.join(0, 1));
        twins.none("no places", full, d -> d.copyRow(0, 0, 601, true));
        twins.none("no cells", full, d -> d.copyBox(1, 0, 0, 6, 0, true));
        twins.none("no items", full, d -> d.copyItems(2, 0, 2, true));
        twins.noSuch("no piece", full, d -> d.join(0, 6));
    }

    /** "the eldest .. goes": what it was doesn't show in those that come later. */
    private static void whatWentLeavesNothing() {
        for (int make = 0; make < 4; make++) {
            Bench b = new Bench();
            int styled = b.desk.paper(1);
            b.desk.style(styled, 9, 90);
            b.type(styled, 0, 1, "\n".repeat(40));
            int table = b.desk.paper(2);
            b.desk.hide(table, 0, true);
            for (int k = 0; k < 8; k++) {
                b.desk.copyRow(styled, 0, 40, false);
                b.desk.join(b.desk.copyBox(table, 0, 0, 1, 1, false), 3 * k);
            }
            b.desk.hide(table, 0, false);
            int list = b.list("0i");
            int plain = b.row(0, "p");
            int to = b.desk.paper(make);
            for (int round = 0; round < 4; round++) {
                int row = b.desk.copyRow(plain, 0, 1, false);
                int box = b.desk.copyBox(table, 5, 5, 5, 5, false);
                int items = b.desk.copyItems(list, 0, 1, false);
                for (int piece : new int[] {row, box, items, b.desk.join(items, box)}) {
                    check.same("hidden", b.desk.piece(piece, 5), 0);
                    check.same("came into make " + make, putOne(b.desk, to, make, piece),
                            piece > items ? new int[] {5, 5, 2, 2}[make]
                                    : make > 1 || piece == row ? 1 : piece == box ? 0 : 4);
                    check.same("losses", b.losses(), "0 0 0 0 0 0 0 0");
                    b.desk.undo();
                }
            }
        }
    }

    private static int putOne(Desk desk, int paper, int make, int piece) {
        if (make == 2) {
            return desk.putBox(paper, piece, 0, 0);
        }
        return make == 3 ? desk.putItems(paper, piece, 0, 0) : desk.putRow(paper, piece, 0, 0);
    }

    /** "NoSuchElementException: no such PIECE on THE SHELF (as everywhere)" */
    private static void joinNeedsPieces() {
        for (int piece : new int[] {MIN, -1, 3, 4, MAX}) {
            twins.noSuch("join, piece " + piece, Twins.FED, d -> d.join(piece, 0));
            twins.noSuch("join, other " + piece, Twins.FED, d -> d.join(0, piece));
            twins.noSuch("join, both " + piece, Twins.FED, d -> d.join(piece, piece));
        }
        Bench b = new Bench();
        int plain = b.row(0, "ab");
        for (int k = 0; k < 7; k++) {
            b.desk.copyRow(plain, 0, 1, false);
        }
        check.noSuch("one that went", () -> b.desk.join(0, 1));
        check.noSuch("one that went, as the other", () -> b.desk.join(1, 0));
        check.same("one that is there", b.desk.join(1, 2), 7);
    }

    /** "a ROW behind a ROW" */
    private static void joinedRows() {
        Bench b = new Bench();
        int styled = b.desk.paper(1);
        b.desk.style(styled, 3, 30);
        b.type(styled, 0, 1, "ab");
        b.type(styled, 2, 0, "c");
        b.desk.copyRow(styled, 0, 3, false);
        b.desk.copyRow(styled, 1, 2, false);
        b.desk.join(0, 1);
        check.same("the other is behind", b.form(2), "abcb");
        check.same("a row", b.desk.piece(2, 0), 0);
        b.desk.putRow(styled, 2, 0, 0);
        check.same("with its styles", b.stylesOf(styled), "1101110");
        check.same("the two stay", b.form(0) + b.form(1), "abcb");
    }

    /** "ITEMS behind ITEMS" */
    private static void joinedItems() {
        Bench b = new Bench();
        int list = b.list("3a", "5b", "4c", "1d", "3e");
        b.desk.copyItems(list, 0, 3, false);
        b.desk.copyItems(list, 3, 5, false);
        check.same("one", b.form(0), "1. a\n    1. b\n  1. c");
        check.same("other", b.form(1), "1. d\n    1. e");
        b.desk.join(0, 1);
        check.same("the other is behind", b.form(2), "    1. a\n        1. b\n      1. c\n1. d\n    1. e");
        b.desk.join(1, 0);
        check.same("the one is behind", b.form(3), "1. d\n    1. e\n    2. a\n        1. b\n      1. c");
        check.same("items", b.desk.piece(3, 0), 2);
        check.same("five", b.desk.piece(3, 2), 5);
        int to = b.desk.paper(3);
        b.desk.putItems(to, 3, 0, 1);
        check.same("their levels", b.itemsOf(to), "1,1,d;3,1,e;3,2,a;5,1,b;4,1,c;");
    }

    /** As many ITEMS as 1,000 bytes hold; the LIST's 30 aren't asked of a PIECE. */
    private static void manyJoinedItems() {
        StringBuilder due = new StringBuilder();
        Bench b = new Bench();
        int list = b.desk.paper(3);
        for (int i = 0; i < 29; i++) {
            b.desk.item(list, i, 0, 0);
        }
        int all = b.desk.copyItems(list, 0, 29, false);
        for (int items = 58; items <= 174; items += 29) {
            all = b.desk.join(all, 0);
            check.same("items", b.desk.piece(all, 2), items);
            b.desk.pin(0, true);
        }
        for (int k = 1; k <= 174; k++) {
            due.append(k > 1 ? "\n" : "").append(k).append(". ");
        }
        int end = due.length();
        check.same("bytes", b.desk.plain(all), end);
        check.same("to two digits", b.out(0, 60), due.substring(0, 60));
        check.same("to three digits", b.out(430, 550), due.substring(430, 550));
        check.same("to the end", b.out(end - 60, end), due.substring(end - 60));
        check.same("174 and 29 are too many", b.desk.join(all, 0), -1);
        check.same("174 and 174 are, too", b.desk.join(all, all), -1);
        check.same("the next number", b.desk.copyItems(list, 0, 1, false), all + 1);
        check.same("174 and 1", b.desk.join(all, all + 1), all + 2);
        check.same("are there", b.desk.piece(all + 2, 2), 175);
    }

    /** Boxes of so many rows and columns, empty, as PIECES 0 and 1, joined as PIECE 2. */
    private static Bench joinedBoxes(int rows, int columns, int otherRows, int otherColumns) {
        Bench b = new Bench();
        int table = b.desk.paper(2);
        b.desk.copyBox(table, 0, 0, rows - 1, columns - 1, false);
        b.desk.copyBox(table, 0, 0, otherRows - 1, otherColumns - 1, false);
        check.same("joined", b.desk.join(0, 1), 2);
        return b;
    }

    private static void checkBox(Bench b, int piece, int rows, int columns, int bytes) {
        check.same("sort", b.desk.piece(piece, 0), rows == -1 ? 0 : 1);
        check.same("rows", b.desk.piece(piece, 2), rows);
        check.same("columns", b.desk.piece(piece, 3), columns);
        check.same("bytes", b.desk.piece(piece, 1), bytes);
    }

    /** "(12 ROWS at most)"; "(or .. too many ROWS): a ROW" */
    private static void twelveRowsOfABox() {
        checkBox(joinedBoxes(6, 1, 6, 1), 2, 12, 1, 11);
        checkBox(joinedBoxes(6, 6, 6, 6), 2, 12, 6, 71);
        Bench b = joinedBoxes(6, 2, 5, 2);
        checkBox(b, 2, 11, 2, 21);
        b.desk.copyBox(0, 0, 0, 0, 1, false);
        b.desk.copyBox(0, 0, 0, 1, 1, false);
        b.desk.join(2, 3);
        checkBox(b, 5, 12, 2, 23);
        b.desk.join(3, 2);
        checkBox(b, 6, 12, 2, 23);
        b.desk.join(2, 4);
        checkBox(b, 7, -1, -1, 25);
        b.desk.join(5, 3);
        checkBox(b, 8, -1, -1, 25);
        b.desk.join(3, 5);
        checkBox(b, 9, -1, -1, 25);
        Bench large = joinedBoxes(6, 1, 6, 1);
        large.desk.join(2, 2);
        checkBox(large, 3, -1, -1, 23);
    }

    /** "below those of one of as many COLUMNS"; "Of unlike .. COLUMNS .. : a ROW" */
    private static void columnsAlike() {
        for (int columns = 1; columns <= 6; columns++) {
            for (int other = 1; other <= 6; other++) {
                int bytes = columns - 1 + 1 + 2 * other - 1;
                boolean alike = columns == other;
                checkBox(joinedBoxes(1, columns, 2, other), 2, alike ? 3 : -1, alike ? columns : -1, bytes);
            }
        }
    }

    /** "JOINED that would be more: none comes", of ROWS */
    private static void joinedRowsOfAThousand() {
        for (int bytes : new int[] {399, 400, 401, 402}) {
            Twins.Story story = b -> {
                b.row(0, "f".repeat(600));
                b.row(0, "g".repeat(bytes - 1) + "l");
                b.desk.copyRow(0, 0, 600, false);
                b.desk.copyRow(1, 0, bytes, false);
            };
            if (bytes > 400) {
                twins.none("600 and " + bytes, story, d -> d.join(0, 1));
                twins.none(bytes + " and 600", story, d -> d.join(1, 0));
                continue;
            }
            Bench b = new Bench();
            story.on(b);
            check.same("600 and " + bytes, b.desk.join(0, 1), 2);
            check.same("bytes", b.desk.plain(2), 600 + bytes);
            check.same("where they meet", b.out(599, 601), "fg");
            check.same("the last", b.out(599 + bytes, 600 + bytes), "l");
            check.same("the other way round", b.desk.join(1, 0), 3);
            b.desk.plain(3);
            check.same("where those meet", b.out(bytes - 1, bytes + 1), "lf");
        }
        check.same("1,000 and 1,000", thousandTwice().join(0, 0), -1);
    }

    private static Desk thousandTwice() {
        Bench b = new Bench();
        b.row(0, "x".repeat(1000));
        b.desk.copyRow(0, 0, 1000, false);
        return b.desk;
    }

    /** The same, of BOXES: two of 4 ROWS by 6 COLUMNS, 23 CELLS of 20 bytes in each and that many more. */
    private static void joinedBoxesOfAThousand() {
        // A box has 23 TABS and BREAKS, and a BREAK is between the two.
        int[][] due = {{20, 12, 999}, {20, 13, 1000}, {20, 14, -1}, {20, 20, -1}, {13, 20, 1000}, {14, 20, -1}};
        for (int[] k : due) {
            Twins.Story story = b -> {
                int table = b.desk.paper(2);
                b.cell(table, 0, 0, "x".repeat(20));
                int cell = b.desk.copyBox(table, 0, 0, 0, 0, false);
                for (int c = 1; c < 23; c++) {
                    b.desk.putBox(table, cell, c / 6, c % 6);
                }
                b.cell(table, 3, 5, "y".repeat(k[0]));
                b.desk.copyBox(table, 0, 0, 3, 5, false);
                b.cell(table, 3, 5, "z".repeat(k[1]));
                b.desk.copyBox(table, 0, 0, 3, 5, false);
            };
            if (k[2] == -1) {
                twins.none("boxes", story, d -> d.join(1, 2));
                continue;
            }
            Bench b = new Bench();
            story.on(b);
            check.same("boxes", b.desk.join(1, 2), 3);
            check.same("bytes", b.desk.piece(3, 1), k[2]);
            check.same("a box", b.desk.piece(3, 2), 8);
        }
    }

    /** The same, of ITEMS. */
    private static void joinedItemsOfAThousand() {
        for (int bytes = 14; bytes <= 17; bytes++) {
            int last = bytes;
            Twins.Story story = b -> {
                longList(b, last);
                b.desk.copyItems(0, 0, 11, false);
                b.desk.copyItems(0, 11, 23, false);
            };
            if (bytes > 15) {
                twins.none("items", story, d -> d.join(1, 2));
                continue;
            }
            Bench b = new Bench();
            story.on(b);
            check.same("items", b.desk.join(1, 2), 3);
            check.same("bytes", b.desk.plain(3), 985 + bytes);
            check.same("are numbered on", b.out(980, 987), "\n23. ll");
            check.same("items of it", b.desk.piece(3, 2), 23);
        }
    }

    /** The same, of unlike sorts: "both PLAIN FORMS with a BREAK between" */
    private static void joinedUnlikeOfAThousand() {
        for (int bytes : new int[] {994, 995, 996}) {
            Twins.Story story = b -> {
                b.row(0, "x".repeat(bytes));
                b.list("0i");
                b.desk.copyRow(0, 0, bytes, false);
                b.desk.copyItems(1, 0, 1, false);
            };
            if (bytes > 995) {
                twins.none(bytes + ", a break and 4", story, d -> d.join(0, 1));
                twins.none("4, a break and " + bytes, story, d -> d.join(1, 0));
                continue;
            }
            Bench b = new Bench();
            story.on(b);
            check.same(bytes + ", a break and 4", b.desk.join(0, 1), 2);
            check.same("bytes", b.desk.plain(2), bytes + 5);
            check.same("its end", b.out(bytes - 1, bytes + 5), "x\n1. i");
            check.same("4, a break and " + bytes, b.desk.join(1, 0), 3);
            b.desk.plain(3);
            check.same("its beginning", b.out(0, 6), "1. i\nx");
            check.same("a row", b.desk.piece(3, 0), 0);
        }
        Bench b = new Bench();
        b.row(0, "x".repeat(1000));
        b.desk.paper(2);
        b.desk.copyRow(0, 0, 999, false);
        b.desk.copyRow(0, 0, 1000, false);
        b.desk.copyBox(1, 0, 0, 0, 0, false);
        check.same("999, a break and none", b.desk.join(0, 2), 3);
        check.same("1,000, a break and none", b.desk.join(1, 2), -1);
        check.same("none, a break and 1,000", b.desk.join(2, 1), -1);
        check.same("none, a break and 999", b.desk.join(2, 0), 4);
        check.same("none, a break and none", b.desk.join(2, 2), 5);
        check.same("is a box of one byte", b.desk.plain(5), 1);
    }

    /** "What the two were told to have lost is told of the new one, added up." */
    private static void toldIsAddedUp() {
        Bench b = new Bench();
        int table = b.desk.paper(2);
        for (int row = 1; row < 6; row++) {
            b.desk.hide(table, row, true);
        }
        b.desk.copyBox(table, 0, 0, 5, 0, false);
        b.desk.copyBox(table, 0, 0, 2, 0, false);
        b.desk.copyBox(table, 0, 0, 0, 1, false);
        int plain = b.row(0, "x");
        b.desk.copyRow(plain, 0, 1, false);
        check.same("five", b.desk.piece(0, 5), 5);
        check.same("two", b.desk.piece(1, 5), 2);
        check.same("none", b.desk.piece(2, 5), 0);
        check.same("boxes", b.desk.piece(b.desk.join(0, 1), 5), 7);
        check.same("of unlike columns", b.desk.piece(b.desk.join(2, 0), 5), 5);
        check.same("with itself", b.desk.piece(b.desk.join(4, 4), 5), 14);
        check.same("a row and a box", b.desk.piece(b.desk.join(3, 6), 5), 14);
        check.same("a box and a row", b.desk.piece(b.desk.join(6, 3), 5), 14);
        check.same("of a row that was joined", b.desk.piece(b.desk.join(7, 8), 5), 28);
        b.desk.putRow(plain, 9, 0, 0);
        check.same("and told of a put", b.desk.lost(7), 28);
    }

    /** "At most 4 are PINNED."; "False: 4 are, and it isn't" */
    private static void fourPinned() {
        Twins.Story four = b -> {
            int plain = b.row(0, "abcdef");
            for (int k = 0; k < 6; k++) {
                b.desk.copyRow(plain, k, k + 1, false);
            }
            for (int k = 0; k < 4; k++) {
                check.same("pinned", b.desk.count(2), k);
                check.isTrue("pin", b.desk.pin(k, true));
            }
        };
        twins.unchanged("a fifth", four, d -> d.pin(4, true) ? 1 : 0, "0");
        twins.unchanged("another fifth", four, d -> d.pin(5, true) ? 1 : 0, "0");
        twins.unchanged("one of the four", four, d -> d.pin(3, true) ? 1 : 0, "0");
        Bench b = new Bench();
        four.on(b);
        check.isTrue("one less", b.desk.pin(0, false));
        check.isTrue("and another", b.desk.pin(5, true));
        check.same("four", b.desk.count(2), 4);
        check.isFalse("the first is a fifth now", b.desk.pin(0, true));
    }

    /** "or it is as told already" */
    private static void pinnedAsTold() {
        twins.unchanged("pinned already", Twins.FED, d -> d.pin(1, true) ? 1 : 0, "0");
        twins.unchanged("not pinned already", Twins.FED, d -> d.pin(0, false) ? 1 : 0, "0");
        twins.unchanged("pinning is no act", b -> {
            Twins.FED.on(b);
            b.desk.pin(0, true);
        }, d -> d.count(3), "14");
    }

    /** "One that is PINNED no more may be one too many: then the eldest that isn't goes." */
    private static void pinnedNoMore() {
        for (int unpinned : new int[] {0, 3, 7}) {
            Bench b = new Bench();
            int plain = b.row(0, "abcdefghij");
            for (int k = 0; k < 10; k++) {
                b.desk.copyRow(plain, k, k + 1, false);
                if (k == 0 || k == 3 || k == 7) {
                    b.desk.pin(k, true);
                }
            }
            check.same("six and three", b.desk.count(1), 9);
            int gone = unpinned == 0 ? 0 : 2;
            check.noSuch("one went long ago", () -> b.desk.piece(1, 0));
            check.isTrue("pinned no more", b.desk.pin(unpinned, false));
            check.same("six and two", b.desk.count(1), 8);
            check.same("two pinned", b.desk.count(2), 2);
            for (int k = 0; k < 10; k++) {
                int piece = k;
                check.same("piece " + k, Check.answerOf(() -> b.desk.plain(piece)),
                        k == 1 || k == gone ? Check.NO_SUCH : "1");
            }
        }
        Bench b = new Bench();
        int plain = b.row(0, "abcdef");
        for (int k = 0; k < 6; k++) {
            b.desk.copyRow(plain, k, k + 1, false);
        }
        b.desk.pin(0, true);
        check.isTrue("six in all", b.desk.pin(0, false));
        check.same("are not too many", b.desk.count(1), 6);
        check.same("none went", b.form(0), "a");
    }

    /** "NoSuchElementException: no such PIECE on THE SHELF (as everywhere)" */
    private static void pinNeedsAPiece() {
        for (int piece : new int[] {MIN, -1, 3, 4, MAX}) {
            twins.noSuch("pin " + piece, Twins.FED, d -> d.pin(piece, true) ? 1 : 0);
            twins.noSuch("unpin " + piece, Twins.FED, d -> d.pin(piece, false) ? 1 : 0);
            twins.noSuch("piece " + piece, Twins.FED, d -> d.piece(piece, 0));
            twins.noSuch("plain " + piece, Twins.FED, d -> d.plain(piece));
        }
        Bench b = new Bench();
        int plain = b.row(0, "a");
        for (int k = 0; k < 7; k++) {
            b.desk.copyRow(plain, 0, 1, false);
        }
        check.noSuch("one that went", () -> b.desk.pin(0, true) ? 1 : 0);
        check.noSuch("one that went, not", () -> b.desk.pin(0, false) ? 1 : 0);
        check.same("none is pinned", b.desk.count(2), 0);
    }

    /** "NoSuchElementException: another what." */
    private static void factsOfAPiece() {
        for (int what : new int[] {MIN, -1, 6, 7, MAX}) {
            for (int piece = 0; piece < 3; piece++) {
                int of = piece;
                twins.noSuch("piece " + piece + ", what " + what, Twins.FED, d -> d.piece(of, what));
            }
        }
        int[][] due = {{0, 3, -1, -1, 0, 0}, {1, 5, 2, 2, 1, 1}, {2, 15, 2, -1, 0, 0}};
        for (int piece = 0; piece < 3; piece++) {
            for (int what = 0; what < 6; what++) {
                int of = piece;
                int fact = what;
                twins.unchanged("piece " + piece + ", what " + what, Twins.FED, d -> d.piece(of, fact),
                        "" + due[piece][what]);
            }
        }
    }
}
