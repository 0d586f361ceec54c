/** The bounds that part 3 (PUT and its LOSSES) and promises 15 to 18 name, each sentence by itself. */
public final class PutBoundsTest {
    private static final int MIN = Integer.MIN_VALUE;
    private static final int MAX = Integer.MAX_VALUE;
    private static final String NO_LOSSES = "0 0 0 0 0 0 0 0";

    private static final Check check = new Check();
    private static final Twins twins = new Twins(check);

    public static void main(String[] args) {
        putsNeedPapersAndPieces();
        placesOfARow();
        noSuchPlace();
        ways();
        wayIsNotAskedOfPlain();
        rowsAnotherMake();
        styledPlacesIntoPlain();
        beyondAThousandOfPlain();
        breaksAndTabsAreLostToo();
        beyondAThousandOfStyled();
        othersHaveStyleZero();
        emptyFormIntoARow();
        foundByName();
        foundByLook();
        lookOfStyleZero();
        lessThanEightStyles();
        noneHasThatName();
        inTheOrderInWhichTheyCome();
        metOnce();
        stylesOfPlacesThatComeAlone();
        everyCellOfATable();
        noSuchCell();
        tableAnotherMake();
        boxCellByCell();
        partedByBreaksAndTabs();
        whatHasNoCell();
        aboveTwentyCharacters();
        hiddenRowsTakeWhatComes();
        styledPlacesIntoATable();
        gapsOfAList();
        noSuchGapOrLevel();
        listAnotherMake();
        levelsAsMuchMore();
        levelsAboveFiveAndBelowZero();
        partedIntoItems();
        tabsBecomeBlanks();
        aboveFortyCharacters();
        moreThanThirtyItems();
        nothingElseOfThoseLeftOff();
        hiddenRowsAreLost();
        noLossesAtFirst();
        lossesOfTheLatestPut();
        noSuchKind();
        check.end();
    }

    /** "NoSuchElementException: no such PAPER, PIECE." */
    private static void putsNeedPapersAndPieces() {
        for (int wrong : new int[] {MIN, -1, 4, 5, 6, MAX}) {
            twins.noSuch("putRow, paper " + wrong, Twins.FED, d -> d.putRow(wrong, 0, 0, 0));
            twins.noSuch("putBox, paper " + wrong, Twins.FED, d -> d.putBox(wrong, 1, 0, 0));
            twins.noSuch("putItems, paper " + wrong, Twins.FED, d -> d.putItems(wrong, 2, 0, 0));
        }
        for (int wrong : new int[] {MIN, -1, 3, 4, MAX}) {
            twins.noSuch("putRow, piece " + wrong, Twins.FED, d -> d.putRow(0, wrong, 0, 0));
            twins.noSuch("putBox, piece " + wrong, Twins.FED, d -> d.putBox(2, wrong, 0, 0));
            twins.noSuch("putItems, piece " + wrong, Twins.FED, d -> d.putItems(3, wrong, 0, 0));
            twins.noSuch("putRow, piece " + wrong + " at no place", Twins.FED, d -> d.putRow(0, wrong, -1, 0));
            twins.noSuch("putBox, piece " + wrong + " at no cell", Twins.FED, d -> d.putBox(2, wrong, 6, 0));
            twins.noSuch("putItems, piece " + wrong + " at no item", Twins.FED, d -> d.putItems(3, wrong, 9, 0));
        }
        Bench b = new Bench();
        Twins.FED.on(b);
        for (int k = 0; k < 6; k++) {
            b.desk.copyRow(1, 0, 1, false);
        }
        check.noSuch("a piece that went", () -> b.desk.putRow(0, 0, 0, 0));
        check.same("a pinned one", b.desk.putRow(0, 1, 0, 0), 5);
    }

    /** "PUT into a row at a place": 0 to all. */
    private static void placesOfARow() {
        for (int make = 0; make < 2; make++) {
            for (int place = 0; place <= 3; place++) {
                Bench b = new Bench();
                int row = b.row(make, "abc");
                int from = b.row(0, "12");
                b.desk.copyRow(from, 0, 2, false);
                check.same("put at " + place, b.desk.putRow(row, 0, place, 0), 2);
                check.same("bytes", b.bytesOf(row), "abc".substring(0, place) + "12" + "abc".substring(place));
                check.same("losses", b.losses(), NO_LOSSES);
            }
            Bench b = new Bench();
            int empty = b.desk.paper(make);
            int from = b.row(0, "12");
            b.desk.copyRow(from, 0, 2, false);
            check.same("place 1 of an empty one", b.desk.putRow(empty, 0, 1, 0), -1);
            check.same("place 0 of an empty one", b.desk.putRow(empty, 0, 0, 0), 2);
        }
    }

    /** "NONE, and nothing changes: .. no such place" */
    private static void noSuchPlace() {
        for (int piece = 0; piece < 3; piece++) {
            int of = piece;
            for (int place : new int[] {MIN, -1, 8, 1000, MAX}) {
                twins.none("place " + place + " of PLAIN", Twins.FED, d -> d.putRow(0, of, place, 0));
            }
            for (int place : new int[] {MIN, -1, 4, 1000, MAX}) {
                twins.none("place " + place + " of STYLED", Twins.FED, d -> d.putRow(1, of, place, 1));
            }
        }
    }

    /** "no such .. way": 0, 1 */
    private static void ways() {
        for (int piece = 0; piece < 3; piece++) {
            int of = piece;
            for (int way : new int[] {MIN, -1, 2, 3, MAX}) {
                twins.none("way " + way, Twins.FED, d -> d.putRow(1, of, 0, way));
            }
            for (int way = 0; way < 2; way++) {
                Bench b = new Bench();
                Twins.FED.on(b);
                check.same("way " + way, b.desk.putRow(1, piece, 0, way), new int[] {3, 5, 15}[piece]);
            }
        }
    }

    /** "not asked of PLAIN" */
    private static void wayIsNotAskedOfPlain() {
        for (int way : new int[] {MIN, -1, 0, 1, 2, MAX}) {
            Bench b = new Bench();
            Twins.FED.on(b);
            check.same("way " + way, b.desk.putRow(0, 0, 0, way), 3);
            check.same("losses", b.losses(), "2 0 0 0 0 0 0 0");
        }
    }

    /** "NONE, and nothing changes: another MAKE" */
    private static void rowsAnotherMake() {
        for (int piece = 0; piece < 3; piece++) {
            int of = piece;
            twins.none("putRow into a TABLE", Twins.FED, d -> d.putRow(2, of, 0, 0));
            twins.none("putRow into a LIST", Twins.FED, d -> d.putRow(3, of, 0, 0));
        }
    }

    /** A paper and PIECE 0: "a" of STYLE 5:50, "bb" of 6:60, "ccc" of 7:70, "dddd" of STYLE 0. */
    private static void tenStyled(Bench b) {
        int styled = b.desk.paper(1);
        String text = "abbcccdddd";
        for (int k = 0, style = 0; k < 10; k += style) {
            style++;
            b.desk.style(styled, 4 + style, 10 * (4 + style));
            b.type(styled, k, style % 4, text.substring(k, k + style));
        }
        b.desk.copyRow(styled, 0, 10, false);
    }

    /** "places with a STYLE other than 0 are LOSSES 0" */
    private static void styledPlacesIntoPlain() {
        Bench b = new Bench();
        tenStyled(b);
        int plain = b.desk.paper(0);
        check.same("all come", b.desk.putRow(plain, 0, 0, 0), 10);
        check.same("six had a style", b.losses(), "6 0 0 0 0 0 0 0");
        b.desk.copyRow(0, 6, 10, false);
        b.desk.putRow(plain, 1, 0, 0);
        check.same("style 0 isn't lost", b.losses(), NO_LOSSES);
    }

    /** "What would go beyond 1,000 is left off (its end): CHARACTERS lost (.. their STYLES aren't counted)" */
    private static void beyondAThousandOfPlain() {
        String[] losses = {"0 0 0 10 0 0 0 0", "1 0 0 9 0 0 0 0", "2 0 0 8 0 0 0 0", "3 0 0 7 0 0 0 0"};
        for (int room = 0; room < 4; room++) {
            for (int place : new int[] {0, 500, 1000 - room}) {
                Bench b = new Bench();
                tenStyled(b);
                int plain = b.row(0, "f" + "x".repeat(998 - room) + "l");
                check.same("room for " + room, b.desk.putRow(plain, 0, place, 0), room);
                check.same("full", b.desk.about(plain, 1), 1000);
                check.same("losses", b.losses(), losses[room]);
                check.same("its beginning came", b.bytesOf(plain, place, place + room), "abb".substring(0, room));
                check.same("what was there stays", b.desk.at(plain, place == 1000 - room ? 0 : 999, 0),
                        place == 1000 - room ? 'f' : 'l');
            }
        }
        for (int room : new int[] {9, 10, 11}) {
            Bench b = new Bench();
            tenStyled(b);
            int plain = b.row(0, "x".repeat(1000 - room));
            check.same("room for " + room, b.desk.putRow(plain, 0, 0, 0), Math.min(room, 10));
            check.same("losses", b.losses(), room < 10 ? "6 0 0 1 0 0 0 0" : "6 0 0 0 0 0 0 0");
        }
    }

    /** "CHARACTERS lost (BREAKS, TABS, too" */
    private static void breaksAndTabsAreLostToo() {
        for (int make = 0; make < 2; make++) {
            Bench b = new Bench();
            int row = b.row(make, "x".repeat(998));
            int table = b.table(new String[] {"p", "q"}, new String[] {"r"});
            b.desk.copyBox(table, 0, 0, 1, 1, false);
            check.same("p and a tab came", b.desk.putRow(row, 0, 998, 0), 2);
            check.same("bytes", b.bytesOf(row, 998, 1000), "p\t");
            check.same("q, a break, r and a tab are lost", b.losses(), "0 0 0 4 0 0 0 0");
        }
    }

    /** "beyond 1,000 likewise", into STYLED */
    private static void beyondAThousandOfStyled() {
        String[] sheets = {"0:0 ", "0:0 5:50 ", "0:0 5:50 6:60 ", "0:0 5:50 6:60 ", "0:0 5:50 6:60 7:70 "};
        for (int room = 0; room < 5; room++) {
            for (int way = 0; way < 2; way++) {
                Bench b = new Bench();
                tenStyled(b);
                int styled = b.row(1, "x".repeat(1000 - room));
                check.same("room for " + room, b.desk.putRow(styled, 0, 7, way), room);
                check.same("full", b.desk.about(styled, 1), 1000);
                check.same("losses", b.losses(), "0 0 0 " + (10 - room) + " 0 0 0 0");
                check.same("styles", b.stylesOf(styled, 7, 12), "1223".substring(0, room) + "00000".substring(room));
                check.same("sheet", b.sheetOf(styled), sheets[room]);
            }
        }
    }

    /** "others as the PLAIN FORM with STYLE 0" */
    private static void othersHaveStyleZero() {
        for (int way = 0; way < 2; way++) {
            Bench b = new Bench();
            Twins.FED.on(b);
            check.same("a box", b.desk.putRow(1, 1, 1, way), 5);
            check.same("its form", b.bytesOf(1), "xp\tq\n\tyz");
            check.same("style 0", b.stylesOf(1), "10000020");
            check.same("its hidden row is told", b.losses(), "0 0 0 0 0 0 0 1");
            check.same("items", b.desk.putRow(1, 2, 8, way), 15);
            check.same("their form", b.bytesOf(1, 8, 23), "1. one\n  1. two");
            check.same("style 0, too", b.stylesOf(1, 8, 23), "0".repeat(15));
            check.same("nothing is lost", b.losses(), NO_LOSSES);
        }
    }

    /** A BOX of one empty CELL has an empty PLAIN FORM: no place of it comes, yet the PUT is made. */
    private static void emptyFormIntoARow() {
        for (int make = 0; make < 2; make++) {
            Bench b = new Bench();
            int row = b.row(make, "ab");
            int table = b.desk.paper(2);
            b.desk.hide(table, 1, true);
            b.desk.copyBox(table, 0, 0, 1, 0, false);
            check.same("none comes", b.desk.putRow(row, 0, 1, 0), 0);
            check.same("bytes", b.bytesOf(row), "ab");
            check.same("losses are told", b.losses(), "0 0 0 0 0 0 0 1");
        }
    }

    /** PIECE 0, "ab" of that STYLE, put by a way into a paper of these STYLES (each NAME * 1000 + LOOK). */
    private static Bench met(int name, int look, int way, int... styles) {
        Bench b = new Bench();
        int from = b.desk.paper(1);
        b.desk.style(from, name, look);
        b.type(from, 0, 1, "ab");
        int to = b.desk.paper(1);
        for (int style : styles) {
            b.desk.style(to, style / 1000, style % 1000);
        }
        b.desk.copyRow(from, 0, 2, false);
        check.same("put", b.desk.putRow(to, 0, 0, way), 2);
        return b;
    }

    private static void checkMet(String what, Bench b, String styles, String sheet, String losses) {
        check.same(what + ": styles", b.stylesOf(1), styles);
        check.same(what + ": sheet", b.sheetOf(1), sheet);
        check.same(what + ": losses", b.losses(), losses);
    }

    /** "by NAME (way 0): the paper's STYLE of that NAME, if there is one"; another LOOK: LOSSES 1 */
    private static void foundByName() {
        checkMet("same look", met(9, 90, 0, 8090, 9090), "22", "0:0 8:90 9:90 ", NO_LOSSES);
        checkMet("another look", met(9, 90, 0, 8090, 9091), "22", "0:0 8:90 9:91 ", "0 2 0 0 0 0 0 0");
        checkMet("none", met(9, 90, 0, 8090), "22", "0:0 8:90 9:90 ", NO_LOSSES);
        checkMet("the greatest", met(99, 999, 0, 98999), "22", "0:0 98:999 99:999 ", NO_LOSSES);
        checkMet("look 0", met(9, 0, 0), "11", "0:0 9:0 ", NO_LOSSES);
        checkMet("look 0 there", met(9, 90, 0, 9000), "11", "0:0 9:0 ", "0 2 0 0 0 0 0 0");
        checkMet("the last of eight", met(7, 70, 0, 1001, 2001, 3001, 4001, 5001, 6001, 7071), "77",
                "0:0 1:1 2:1 3:1 4:1 5:1 6:1 7:71 ", "0 2 0 0 0 0 0 0");
    }

    /** "by LOOK (way 1): the first of that LOOK"; another NAME: LOSSES 2 */
    private static void foundByLook() {
        checkMet("same name", met(9, 90, 1, 9090, 8090), "11", "0:0 9:90 8:90 ", NO_LOSSES);
        checkMet("the first has another name", met(9, 90, 1, 8090, 9090), "11", "0:0 8:90 9:90 ", "0 0 2 0 0 0 0 0");
        checkMet("none", met(9, 90, 1, 8091), "22", "0:0 8:91 9:90 ", NO_LOSSES);
        checkMet("the greatest", met(99, 999, 1, 98998), "22", "0:0 98:998 99:999 ", NO_LOSSES);
        checkMet("the last of eight", met(9, 70, 1, 1001, 2001, 3001, 4001, 5001, 6001, 7070), "77",
                "0:0 1:1 2:1 3:1 4:1 5:1 6:1 7:70 ", "0 0 2 0 0 0 0 0");
    }

    /** "the first of that LOOK (0, too)" */
    private static void lookOfStyleZero() {
        checkMet("look 0", met(9, 0, 1, 9000), "00", "0:0 9:0 ", "0 0 2 0 0 0 0 0");
        checkMet("look 1", met(9, 1, 1, 9000), "00", "0:0 9:0 ", "2 0 0 0 0 0 0 0");
        checkMet("look 0, no style", met(9, 0, 1), "00", "0:0 ", "0 0 2 0 0 0 0 0");
        checkMet("look 0 of eight", met(9, 0, 1, 1001, 2001, 3001, 4001, 5001, 6001, 7001), "00",
                "0:0 1:1 2:1 3:1 4:1 5:1 6:1 7:1 ", "0 0 2 0 0 0 0 0");
    }

    /** "Else a new STYLE of that NAME and LOOK, if there are less than 8 .. else STYLE 0: LOSSES 0" */
    private static void lessThanEightStyles() {
        for (int way = 0; way < 2; way++) {
            checkMet("seven", met(9, 90, way, 1001, 2001, 3001, 4001, 5001, 6001), "77",
                    "0:0 1:1 2:1 3:1 4:1 5:1 6:1 9:90 ", NO_LOSSES);
            checkMet("eight", met(9, 90, way, 1001, 2001, 3001, 4001, 5001, 6001, 7001), "00",
                    "0:0 1:1 2:1 3:1 4:1 5:1 6:1 7:1 ", "2 0 0 0 0 0 0 0");
        }
    }

    /** "and none has that NAME; else STYLE 0: LOSSES 0 for each place" */
    private static void noneHasThatName() {
        checkMet("the name is there", met(9, 90, 1, 8091, 9091), "00", "0:0 8:91 9:91 ", "2 0 0 0 0 0 0 0");
        checkMet("the next name is", met(9, 90, 1, 8091, 10091), "33", "0:0 8:91 10:91 9:90 ", NO_LOSSES);
    }

    /** "in the order in which they come first" */
    private static void inTheOrderInWhichTheyCome() {
        for (int way = 0; way < 2; way++) {
            Bench b = new Bench();
            int from = b.desk.paper(1);
            for (int style = 1; style < 4; style++) {
                b.desk.style(from, 10 + style, 100 + style);
            }
            int[] order = {3, 1, 3, 2, 1, 0, 2};
            for (int k = 0; k < order.length; k++) {
                b.type(from, k, order[k], "" + order[k]);
            }
            b.desk.copyRow(from, 0, 7, false);
            int two = b.desk.paper(1);
            for (int style = 1; style < 6; style++) {
                b.desk.style(two, style, style);
            }
            check.same("room for two", b.desk.putRow(two, 0, 0, way), 7);
            check.same("the first two came", b.stylesOf(two), "6760700");
            check.same("sheet", b.sheetOf(two), "0:0 1:1 2:2 3:3 4:4 5:5 13:103 11:101 ");
            check.same("the third is lost", b.losses(), "2 0 0 0 0 0 0 0");
        }
    }

    /** The same: a STYLE is met once, and STYLES that are made behind it don't change that. */
    private static void metOnce() {
        for (int first = 0; first < 3; first++) {
            Bench b = new Bench();
            int from = b.desk.paper(1);
            b.desk.style(from, 5, 50);
            b.desk.style(from, 6, 50);
            b.type(from, 0, 0, "0".repeat(first));
            b.type(from, first, 1, "a");
            b.type(from, first + 1, 2, "b");
            b.type(from, first + 2, 1, "c");
            int to = b.desk.paper(1);
            b.desk.style(to, 5, 1);
            b.desk.copyRow(from, 0, first + 3, false);
            b.desk.putRow(to, 0, 0, 1);
            check.same("5 couldn't come, 6 is new", b.stylesOf(to), "0".repeat(first) + "020");
            check.same("both places of 5", b.losses(), "2 0 0 0 0 0 0 0");
        }
    }

    /** "Of each STYLE but 0 of the places that come": one that is left off makes no STYLE. */
    private static void stylesOfPlacesThatComeAlone() {
        Bench b = new Bench();
        tenStyled(b);
        int styled = b.row(1, "x".repeat(999));
        check.same("one comes", b.desk.putRow(styled, 0, 999, 0), 1);
        check.same("its style alone", b.sheetOf(styled), "0:0 5:50 ");
        int full = b.row(1, "x".repeat(1000));
        check.same("none comes", b.desk.putRow(full, 0, 1000, 1), 0);
        check.same("no style", b.sheetOf(full), "0:0 ");
        check.same("losses", b.losses(), "0 0 0 10 0 0 0 0");
    }

    /** "PUT into a TABLE: how many CELLS came": at each CELL, of a BOX as large as the TABLE. */
    private static void everyCellOfATable() {
        for (int k = 0; k < 36; k++) {
            int row = k / 6;
            int column = k % 6;
            Bench b = new Bench();
            int table = b.desk.paper(2);
            for (int c = 0; c < 36; c++) {
                b.cell(table, c / 6, c % 6, "" + (char) ('A' + c));
            }
            b.desk.copyBox(table, 0, 0, 5, 5, false);
            int to = b.desk.paper(2);
            int came = (6 - row) * (6 - column);
            check.same("cells came", b.desk.putBox(to, 0, row, column), came);
            check.same("the others are lost", b.losses(), "0 0 0 0 " + (36 - came) + " 0 0 0");
            check.same("the first", b.cellText(to, row, column), "A");
            check.same("the last", b.cellText(to, 5, 5), "" + (char) ('A' + 6 * (5 - row) + 5 - column));
        }
    }

    /** "NONE likewise: .. no such CELL" */
    private static void noSuchCell() {
        for (int wrong : new int[] {MIN, -1, 6, 7, 36, MAX}) {
            for (int piece = 0; piece < 3; piece++) {
                int of = piece;
                twins.none("putBox row " + wrong, Twins.FED, d -> d.putBox(2, of, wrong, 0));
                twins.none("putBox column " + wrong, Twins.FED, d -> d.putBox(2, of, 5, wrong));
                twins.none("putBox both " + wrong, Twins.FED, d -> d.putBox(2, of, wrong, wrong));
            }
        }
    }

    /** "NONE likewise: another MAKE" */
    private static void tableAnotherMake() {
        for (int paper : new int[] {0, 1, 3}) {
            for (int piece = 0; piece < 3; piece++) {
                int of = piece;
                twins.none("putBox into paper " + paper, Twins.FED, d -> d.putBox(paper, of, 0, 0));
            }
        }
    }

    /** "a BOX cell by cell": empty ones, too; what is beside it stays. */
    private static void boxCellByCell() {
        Bench b = new Bench();
        int from = b.table(new String[] {"a", ""}, new String[] {"", "d"});
        int to = b.table(new String[] {"1", "2", "3"}, new String[] {"4", "5", "6"}, new String[] {"7", "8", "9"});
        b.desk.copyBox(from, 0, 0, 1, 1, false);
        check.same("four came", b.desk.putBox(to, 0, 0, 1), 4);
        check.same("cells", b.cellsOf(to, 3, 4), "1|a|||/4||d||/7|8|9||/");
        b.desk.copyBox(from, 5, 5, 5, 5, false);
        check.same("an empty one came", b.desk.putBox(to, 1, 2, 2), 1);
        check.same("takes the place", b.cellText(to, 2, 2), "");
        Bench twelve = new Bench();
        int table = twelve.table(new String[] {"x"});
        twelve.desk.copyBox(table, 0, 0, 5, 0, false);
        twelve.cell(table, 5, 0, "y");
        twelve.desk.copyBox(table, 0, 0, 5, 0, false);
        twelve.desk.join(1, 0);
        check.same("six of twelve rows", twelve.desk.putBox(table, 2, 0, 5), 6);
        check.same("the seventh is lost", twelve.losses(), "0 0 0 0 1 0 0 0");
        check.same("the sixth", twelve.cellText(table, 5, 5), "y");
    }

    /** "others: the PLAIN FORM parted by BREAKS into ROWS, by TABS into CELLS" */
    private static void partedByBreaksAndTabs() {
        String[] texts = {"a", "\t", "\n", "a\t", "\tb", "a\n", "\nb", "a\tb\nc", "a\nb\tc", "\t\t\n\n\td", "a\t\tb"};
        String[] cells = {"a|9|9|/9|9|9|/9|9|9|/", "||9|/9|9|9|/9|9|9|/", "|9|9|/|9|9|/9|9|9|/", "a||9|/9|9|9|/9|9|9|/",
            "|b|9|/9|9|9|/9|9|9|/", "a|9|9|/|9|9|/9|9|9|/", "|9|9|/b|9|9|/9|9|9|/", "a|b|9|/c|9|9|/9|9|9|/",
            "a|9|9|/b|c|9|/9|9|9|/", "|||/|9|9|/|d|9|/", "a||b|/9|9|9|/9|9|9|/"};
        int[] came = {1, 2, 2, 2, 2, 2, 2, 3, 3, 6, 3};
        for (int k = 0; k < texts.length; k++) {
            Bench b = new Bench();
            int row = b.row(0, texts[k]);
            String[] nines = {"9", "9", "9"};
            int table = b.table(nines, nines, nines);
            b.desk.copyRow(row, 0, texts[k].length(), false);
            check.same("parts of text " + k, b.desk.putBox(table, 0, 0, 0), came[k]);
            check.same("cells of text " + k, b.cellsOf(table, 3, 3), cells[k]);
            check.same("losses of text " + k, b.losses(), NO_LOSSES);
        }
        Bench b = new Bench();
        Twins.FED.on(b);
        check.same("items", b.desk.putBox(2, 2, 4, 5), 2);
        check.same("the first", b.cellText(2, 4, 5), "1. one");
        check.same("the second", b.cellText(2, 5, 5), "  1. two");
    }

    /** "What has no CELL there is lost: LOSSES 4, if it isn't empty" */
    private static void whatHasNoCell() {
        String[] texts = {"a\tb\tc", "a\tb\t", "a\t\t\t", "a\t\tc\td", "a\nb", "a\n", "a\n\n\nb", "a\n\tb\n\t\tc\t"};
        int[] lost = {1, 0, 0, 2, 1, 0, 1, 2};
        int[] came = {2, 2, 2, 2, 1, 1, 1, 1};
        for (int k = 0; k < texts.length; k++) {
            Bench b = new Bench();
            int row = b.row(0, texts[k]);
            int table = b.desk.paper(2);
            b.desk.copyRow(row, 0, texts[k].length(), false);
            check.same("text " + k + " came", b.desk.putBox(table, 0, 5, 4), came[k]);
            check.same("text " + k + " lost", b.losses(), "0 0 0 0 " + lost[k] + " 0 0 0");
        }
        Bench b = new Bench();
        int row = b.row(0, "a\t" + "b".repeat(50));
        int table = b.desk.paper(2);
        b.desk.copyRow(row, 0, 52, false);
        check.same("one came", b.desk.putBox(table, 0, 0, 5), 1);
        check.same("a long one counts as a cell", b.losses(), "0 0 0 0 1 0 0 0");
    }

    /** "of each CELL what is above 20 CHARACTERS: LOSSES 3" */
    private static void aboveTwentyCharacters() {
        for (int n : new int[] {19, 20, 21, 22, 400}) {
            Bench b = new Bench();
            int row = b.row(0, "x".repeat(n));
            int table = b.table(new String[] {"1", "2"});
            b.desk.copyRow(row, 0, n, false);
            check.same("one came", b.desk.putBox(table, 0, 0, 0), 1);
            check.same("what fits", b.cellText(table, 0, 0), "x".repeat(Math.min(n, 20)));
            check.same("beside it", b.cellText(table, 0, 1), "2");
            check.same("losses of " + n, b.losses(), "0 0 0 " + Math.max(0, n - 20) + " 0 0 0 0");
        }
        Bench b = new Bench();
        int row = b.row(0, "x".repeat(21) + "\t" + "y".repeat(20) + "\n" + "z".repeat(23));
        int table = b.desk.paper(2);
        b.desk.copyRow(row, 0, 66, false);
        b.desk.putBox(table, 0, 4, 4);
        check.same("of all cells", b.losses(), "0 0 0 4 0 0 0 0");
    }

    /** "(HIDDEN ROWS take what comes.)" */
    private static void hiddenRowsTakeWhatComes() {
        for (int hidden = 0; hidden < 6; hidden++) {
            Bench b = new Bench();
            int row = b.row(0, "a\nb\nc\nd\ne\nf");
            int table = b.desk.paper(2);
            b.desk.hide(table, hidden, true);
            b.desk.copyRow(row, 0, 11, false);
            check.same("six", b.desk.putBox(table, 0, 0, 0), 6);
            check.same("cells", b.cellsOf(table, 6, 1), "a|/b|/c|/d|/e|/f|/");
            check.same("no losses", b.losses(), NO_LOSSES);
            check.isTrue("it is still hidden", b.desk.hide(table, hidden, true));
        }
    }

    /** "Places of a ROW with a STYLE: LOSSES 0 (of what comes or not)." */
    private static void styledPlacesIntoATable() {
        Bench b = new Bench();
        int styled = b.desk.paper(1);
        b.desk.style(styled, 9, 90);
        b.type(styled, 0, 1, "a\tb\nc");
        b.type(styled, 5, 0, "\td");
        b.desk.copyRow(styled, 0, 7, false);
        int table = b.desk.paper(2);
        check.same("one comes", b.desk.putBox(table, 0, 5, 5), 1);
        check.same("all five", b.losses(), "5 0 0 0 3 0 0 0");
        check.same("all come", b.desk.putBox(table, 0, 0, 0), 4);
        check.same("the same five", b.losses(), "5 0 0 0 0 0 0 0");
        b.desk.copyRow(styled, 5, 7, false);
        b.desk.putBox(table, 1, 5, 5);
        check.same("style 0 isn't lost", b.losses(), "0 0 0 0 1 0 0 0");
        b.desk.copyBox(table, 0, 0, 0, 0, false);
        b.desk.join(0, 2);
        b.desk.putBox(table, 3, 0, 0);
        check.same("nor is it when unlike sorts were joined", b.losses(), NO_LOSSES);
    }

    /** "Into a LIST, ahead of the i-th ITEM": 0 to all. */
    private static void gapsOfAList() {
        String[] due = {"0,1,x;0,2,a;0,3,b;", "0,1,a;0,2,x;0,3,b;", "0,1,a;0,2,b;0,3,x;"};
        for (int i = 0; i < 3; i++) {
            Bench b = new Bench();
            int list = b.list("0a", "0b");
            int row = b.row(0, "x");
            b.desk.copyRow(row, 0, 1, false);
            check.same("one came", b.desk.putItems(list, 0, i, 0), 1);
            check.same("items", b.itemsOf(list), due[i]);
        }
        Bench b = new Bench();
        int list = b.desk.paper(3);
        int row = b.row(0, "x");
        b.desk.copyRow(row, 0, 1, false);
        check.same("item 1 of an empty one", b.desk.putItems(list, 0, 1, 0), -1);
        check.same("item 0 of an empty one", b.desk.putItems(list, 0, 0, 5), 1);
        check.same("items", b.itemsOf(list), "5,1,x;");
    }

    /** "NONE likewise: .. no such i, LEVEL" */
    private static void noSuchGapOrLevel() {
        for (int piece = 0; piece < 3; piece++) {
            int of = piece;
            for (int i : new int[] {MIN, -1, 4, 30, 31, MAX}) {
                twins.none("putItems at " + i, Twins.FED, d -> d.putItems(3, of, i, 0));
            }
            for (int level : new int[] {MIN, -1, 6, 7, MAX}) {
                twins.none("putItems at level " + level, Twins.FED, d -> d.putItems(3, of, 3, level));
            }
        }
    }

    /** "NONE likewise: another MAKE" */
    private static void listAnotherMake() {
        for (int paper = 0; paper < 3; paper++) {
            for (int piece = 0; piece < 3; piece++) {
                int p = paper;
                int of = piece;
                twins.none("putItems into paper " + paper, Twins.FED, d -> d.putItems(p, of, 0, 0));
            }
        }
    }

    /** "ITEMS with LEVELS as much more as the first one's is" */
    private static void levelsAsMuchMore() {
        for (int level = 0; level < 6; level++) {
            for (int first = 0; first < 6; first++) {
                Bench b = new Bench();
                int list = b.list(first + "a", "0b", "1c", "2d", "3e", "4f", "5g");
                b.desk.copyItems(list, 0, 7, false);
                int to = b.desk.paper(3);
                check.same("seven", b.desk.putItems(to, 0, 0, level), 7);
                int less = 0;
                for (int k = 0; k < 7; k++) {
                    int wanted = k == 0 ? level : k - 1 + level - first;
                    int given = Math.max(0, Math.min(5, wanted));
                    less += wanted == given ? 0 : 1;
                    check.same("level of " + k, b.desk.itemOf(to, k, 0), given);
                }
                check.same("losses", b.losses(), "0 0 0 0 0 " + less + " 0 0");
            }
        }
    }

    /** "(those above 5 are 5, below 0 are 0: LOSSES 5 each)" */
    private static void levelsAboveFiveAndBelowZero() {
        Bench b = new Bench();
        int list = b.list("2a", "3b", "1c", "5d", "0e");
        b.desk.copyItems(list, 0, 5, false);
        String[] due = {"0,1,a;1,1,b;0,2,c;3,1,d;0,3,e;", "1,1,a;2,1,b;0,1,c;4,1,d;0,2,e;",
            "2,1,a;3,1,b;1,1,c;5,1,d;0,1,e;", "3,1,a;4,1,b;2,1,c;5,1,d;1,1,e;", "4,1,a;5,1,b;3,1,c;5,1,d;2,1,e;",
            "5,1,a;5,2,b;4,1,c;5,1,d;3,1,e;"};
        int[] lost = {2, 1, 0, 1, 1, 2};
        for (int level = 0; level < 6; level++) {
            int to = level == 0 ? b.desk.paper(3) : 1;
            b.desk.putItems(to, 0, 0, level);
            check.same("items at level " + level, b.itemsOf(to), due[level]);
            check.same("losses at level " + level, b.losses(), "0 0 0 0 0 " + lost[level] + " 0 0");
            b.desk.undo();
        }
    }

    /** "others: the PLAIN FORM parted by BREAKS into ITEMS of that LEVEL" */
    private static void partedIntoItems() {
        String[] texts = {"a", "\n", "a\n", "\nb", "a\n\nb", "\n\n", "a\nb\nc"};
        String[] items = {"2,1,a;", "2,1,;2,2,;", "2,1,a;2,2,;", "2,1,;2,2,b;", "2,1,a;2,2,;2,3,b;", "2,1,;2,2,;2,3,;",
            "2,1,a;2,2,b;2,3,c;"};
        for (int k = 0; k < texts.length; k++) {
            Bench b = new Bench();
            int row = b.row(0, texts[k]);
            int list = b.desk.paper(3);
            b.desk.copyRow(row, 0, texts[k].length(), false);
            check.same("parts of text " + k, b.desk.putItems(list, 0, 0, 2), items[k].split(";").length);
            check.same("items of text " + k, b.itemsOf(list), items[k]);
            check.same("losses of text " + k, b.losses(), NO_LOSSES);
        }
        Bench b = new Bench();
        Twins.FED.on(b);
        check.same("a box", b.desk.putItems(3, 1, 0, 5), 2);
        check.same("items", b.itemsOf(3), "5,1,p q;5,2, ;0,1,one;1,1,two;2,1,tre;");
        b.desk.copyBox(2, 4, 4, 4, 4, false);
        check.same("a box of one empty cell", b.desk.putItems(3, 3, 5, 0), 1);
        check.same("its item", b.desk.itemOf(3, 5, 2), 0);
    }

    /** "TABS become blanks" */
    private static void tabsBecomeBlanks() {
        Bench b = new Bench();
        int row = b.row(0, "\ta\t\tb\t\n\t");
        int list = b.desk.paper(3);
        b.desk.copyRow(row, 0, 8, false);
        check.same("two", b.desk.putItems(list, 0, 0, 0), 2);
        check.same("items", b.itemsOf(list), "0,1, a  b ;0,2, ;");
        check.same("not in the piece", b.form(0), "\ta\t\tb\t\n\t");
        int tabs = b.row(0, "\t".repeat(41));
        b.desk.copyRow(tabs, 0, 41, false);
        check.same("one", b.desk.putItems(list, 1, 0, 0), 1);
        check.same("the fortieth", b.desk.textOf(list, 0), 40);
        check.same("is a blank", b.out(), " ".repeat(40));
        check.same("the next is lost", b.losses(), "0 0 0 1 0 0 0 0");
    }

    /** "What is above 40 CHARACTERS: LOSSES 3" */
    private static void aboveFortyCharacters() {
        for (int n : new int[] {39, 40, 41, 42, 400}) {
            Bench b = new Bench();
            int row = b.row(0, "x".repeat(n) + "\ny");
            int list = b.desk.paper(3);
            b.desk.copyRow(row, 0, n + 2, false);
            check.same("two came", b.desk.putItems(list, 0, 0, 0), 2);
            check.same("what fits", b.itemsOf(list), "0,1," + "x".repeat(Math.min(n, 40)) + ";0,2,y;");
            check.same("losses of " + n, b.losses(), "0 0 0 " + Math.max(0, n - 40) + " 0 0 0 0");
        }
        Bench b = new Bench();
        int list = b.list("0" + "i".repeat(40), "3" + "j".repeat(40));
        b.desk.copyItems(list, 0, 2, false);
        check.same("items of 40", b.desk.putItems(list, 0, 1, 0), 2);
        check.same("lose nothing", b.losses(), NO_LOSSES);
    }

    /** A LIST, paper 0, of so many empty ITEMS. */
    private static Bench listOf(int items) {
        Bench b = new Bench();
        int list = b.desk.paper(3);
        for (int i = 0; i < items; i++) {
            b.desk.item(list, i, 0, 0);
        }
        return b;
    }

    /** "ITEMS that would make more than 30 are left off (the last ones): LOSSES 6" */
    private static void moreThanThirtyItems() {
        for (int items = 26; items <= 30; items++) {
            for (int i : new int[] {0, 13, items}) {
                Bench b = listOf(items);
                int from = b.list("0a", "0b", "0c");
                int row = b.row(0, "a\nb\nc");
                b.desk.copyItems(from, 0, 3, false);
                b.desk.copyRow(row, 0, 5, false);
                for (int piece = 0; piece < 2; piece++) {
                    int came = Math.min(3, 30 - items);
                    check.same(items + " and three", b.desk.putItems(0, piece, i, 0), came);
                    check.same("there are", b.desk.about(0, 1), items + came);
                    check.same("losses", b.losses(), "0 0 0 0 0 0 " + (3 - came) + " 0");
                    for (int k = 0; k < came; k++) {
                        b.desk.textOf(0, i + k);
                        check.same("the first ones came", b.desk.told(0), 'a' + k);
                    }
                    b.desk.undo();
                    check.same("undone", b.desk.about(0, 1), items);
                }
            }
        }
        Bench b = new Bench();
        int list = b.desk.paper(3);
        int row = b.row(0, "\n".repeat(29) + "z\n");
        b.desk.copyRow(row, 0, 30, false);
        b.desk.copyRow(row, 0, 31, false);
        check.same("30 of 30", b.desk.putItems(list, 0, 0, 0), 30);
        check.same("no losses", b.losses(), NO_LOSSES);
        b.desk.undo();
        check.same("30 of 31", b.desk.putItems(list, 1, 0, 0), 30);
        check.same("one lost", b.losses(), "0 0 0 0 0 0 1 0");
        check.same("the thirtieth", b.desk.textOf(list, 29), 1);
        b.desk.undo();
        int longest = b.row(0, "\n".repeat(29) + "z".repeat(960) + "\n".repeat(11));
        b.desk.copyRow(longest, 0, 1000, false);
        check.same("30 of 41", b.desk.putItems(list, 2, 0, 0), 30);
        check.same("eleven lost", b.losses(), "0 0 0 920 0 0 11 0");
        check.same("the thirtieth is full", b.desk.textOf(list, 29), 40);
        check.same("to its last", b.desk.told(39), 'z');
    }

    /** "(nothing else of them is counted). STYLES as into a TABLE." */
    private static void nothingElseOfThoseLeftOff() {
        Bench b = listOf(29);
        int from = b.list("1a", "5b", "0c");
        b.desk.copyItems(from, 0, 3, false);
        check.same("one of three", b.desk.putItems(0, 0, 29, 0), 1);
        check.same("no levels", b.losses(), "0 0 0 0 0 0 2 0");
        check.same("none of three", b.desk.putItems(0, 0, 0, 3), 0);
        check.same("no levels either", b.losses(), "0 0 0 0 0 0 3 0");
        b.desk.undo();
        b.desk.undo();
        int styled = b.desk.paper(1);
        b.desk.style(styled, 9, 90);
        b.type(styled, 0, 1, "a".repeat(41) + "\n" + "b".repeat(50));
        b.desk.copyRow(styled, 0, 92, false);
        check.same("one of two", b.desk.putItems(0, 1, 0, 0), 1);
        check.same("characters of the one, styles of both", b.losses(), "92 0 0 1 0 0 1 0");
        check.same("none of two", b.desk.putItems(0, 1, 0, 0), 0);
        check.same("no characters", b.losses(), "92 0 0 0 0 0 2 0");
    }

    /** "7 HIDDEN ROWS (of when it was COPIED, CUT)" */
    private static void hiddenRowsAreLost() {
        for (int hidden = 0; hidden < 6; hidden++) {
            for (int to = 0; to < 4; to++) {
                Bench b = new Bench();
                int table = b.desk.paper(2);
                for (int row = 0; row < hidden; row++) {
                    b.desk.hide(table, row, true);
                }
                b.desk.copyBox(table, 0, 0, 5, 0, to % 2 == 0);
                for (int row = 0; row < 6; row++) {
                    b.desk.hide(table, row, row % 2 == 0);
                }
                int paper = b.desk.paper(to);
                putAnywhere(b.desk, paper, to, 0);
                check.same("into make " + to, b.losses(), "0 0 0 0 0 0 0 " + hidden);
            }
        }
    }

    private static int putAnywhere(Desk desk, int paper, int make, int piece) {
        if (make == 2) {
            return desk.putBox(paper, piece, 0, 0);
        }
        return make == 3 ? desk.putItems(paper, piece, 0, 0) : desk.putRow(paper, piece, 0, 0);
    }

    /** "LOSSES of a kind of the latest PUT (0 at first)" */
    private static void noLossesAtFirst() {
        Bench b = new Bench();
        check.same("at first", b.losses(), NO_LOSSES);
        b.row(0, "ab");
        b.desk.copyRow(0, 0, 1, true);
        b.desk.undo();
        check.same("before a put", b.losses(), NO_LOSSES);
    }

    /** The same: each PUT tells its own, of all kinds; nothing else changes them. */
    private static void lossesOfTheLatestPut() {
        for (int to = 0; to < 4; to++) {
            Bench b = new Bench();
            b.row(0, "x".repeat(999));
            int styled = b.desk.paper(1);
            b.desk.style(styled, 9, 90);
            b.type(styled, 0, 1, "ab");
            b.desk.copyRow(styled, 0, 2, false);
            b.desk.putRow(0, 0, 0, 0);
            check.same("two kinds", b.losses(), "1 0 0 1 0 0 0 0");
            int paper = b.desk.paper(to);
            int row = b.row(0, "q");
            b.desk.copyRow(row, 0, 1, false);
            b.desk.copyRow(row, 0, 1, true);
            b.desk.join(1, 2);
            b.desk.pin(1, true);
            b.desk.undo();
            check.same("copies, joins and undo leave them", b.losses(), "1 0 0 1 0 0 0 0");
            check.same("no place", b.desk.putRow(0, 1, -1, 0), -1);
            check.noSuch("no piece", () -> b.desk.putRow(0, 99, 0, 0));
            check.same("refused puts leave them", b.losses(), "1 0 0 1 0 0 0 0");
            check.same("one comes", putAnywhere(b.desk, paper, to, 1), 1);
            check.same("none are left", b.losses(), NO_LOSSES);
            b.desk.undo();
            check.same("nor are they back", b.losses(), NO_LOSSES);
        }
    }

    /** "NoSuchElementException: no such kind." */
    private static void noSuchKind() {
        for (int kind : new int[] {MIN, -1, 8, 9, MAX}) {
            twins.noSuch("lost " + kind, Twins.FED, d -> d.lost(kind));
        }
        for (int kind = 0; kind < 8; kind++) {
            int of = kind;
            twins.unchanged("lost " + kind, Twins.FED, d -> d.lost(of), kind == 0 ? "2" : "0");
        }
    }
}
