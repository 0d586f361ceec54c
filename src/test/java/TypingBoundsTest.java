/** The bounds that the Terms and promises 1 to 8 name, each sentence by itself. */
public final class TypingBoundsTest {
    private static final int MIN = Integer.MIN_VALUE;
    private static final int MAX = Integer.MAX_VALUE;

    private static final Check check = new Check();
    private static final Twins twins = new Twins(check);

    public static void main(String[] args) {
        newObjectHasNothing();
        papersZeroToFive();
        noSuchMake();
        papersAreEmptyAtFirst();
        tapeHas400();
        feedBeyond400();
        highestFirst();
        bytesOfARow();
        bytesOfACell();
        bytesOfAnItem();
        firstBytesAlone();
        tapeIsEmptyBehindTyping();
        placesOfTyping();
        stylesOfTyping();
        styleIsNotAskedOfPlain();
        thousandPlaces();
        typeAnotherMake();
        notSoManyOnTheTape();
        typingNeedsAPaper();
        exceptionsAheadOfNone();
        everyCell();
        noSuchCell();
        twentyInACell();
        whatItWasGoes();
        cellAnotherMake();
        placesOfItems();
        levelsOfItems();
        fortyInAnItem();
        thirtyItems();
        itemAnotherMake();
        namesAndLooks();
        namesAlike();
        eightStyles();
        styleAnotherMake();
        everyRowIsHidden();
        hideNoSuchRow();
        check.end();
    }

    /** "No PAPERS, no PIECES." */
    private static void newObjectHasNothing() {
        for (int number : new int[] {MIN, -1, 0, 1, 5, 6, MAX}) {
            Desk desk = new Desk();
            check.noSuch("new: type", () -> desk.type(number, 0, 0, 0));
            check.noSuch("new: cell", () -> desk.cell(number, 0, 0, 0) ? 1 : 0);
            check.noSuch("new: item", () -> desk.item(number, 0, 0, 0));
            check.noSuch("new: style", () -> desk.style(number, 1, 1));
            check.noSuch("new: hide", () -> desk.hide(number, 0, true) ? 1 : 0);
            check.noSuch("new: copyRow", () -> desk.copyRow(number, 0, 1, true));
            check.noSuch("new: copyBox", () -> desk.copyBox(number, 0, 0, 0, 0, true));
            check.noSuch("new: copyItems", () -> desk.copyItems(number, 0, 1, true));
            check.noSuch("new: about", () -> desk.about(number, 0));
            check.noSuch("new: at", () -> desk.at(number, 0, 0));
            check.noSuch("new: styleOf", () -> desk.styleOf(number, 0, 0));
            check.noSuch("new: itemOf", () -> desk.itemOf(number, 0, 0));
            check.noSuch("new: cellOf", () -> desk.cellOf(number, 0, 0));
            check.noSuch("new: textOf", () -> desk.textOf(number, 0));
            check.noSuch("new: join", () -> desk.join(number, number));
            check.noSuch("new: pin", () -> desk.pin(number, true) ? 1 : 0);
            check.noSuch("new: piece", () -> desk.piece(number, 0));
            check.noSuch("new: plain", () -> desk.plain(number));
            check.noSuch("new: putRow", () -> desk.putRow(number, number, 0, 0));
            check.noSuch("new: putBox", () -> desk.putBox(number, number, 0, 0));
            check.noSuch("new: putItems", () -> desk.putItems(number, number, 0, 0));
            check.noSuch("new: told", () -> desk.told(number));
            for (int what = 0; what < 6; what++) {
                check.same("new: still nothing", desk.count(what), 0);
            }
            check.isFalse("new: nothing to undo", desk.undo());
        }
    }

    /** "NONE: there are 6" */
    private static void papersZeroToFive() {
        for (int make = 0; make < 4; make++) {
            Desk desk = new Desk();
            for (int number = 0; number < 6; number++) {
                check.same("paper", desk.paper(make), number);
                check.same("its make", desk.about(number, 0), make);
                int next = number + 1;
                check.noSuch("the next isn't there yet", () -> desk.about(next, 0));
            }
            for (int other = 0; other < 4; other++) {
                check.same("a seventh", desk.paper(other), -1);
            }
            check.same("six", desk.count(0), 6);
            check.noSuch("paper 6", () -> desk.about(6, 0));
        }
        twins.none("a seventh of a furnished desk", b -> {
            Twins.FED.on(b);
            b.desk.paper(3);
            b.desk.paper(1);
        }, d -> d.paper(0));
    }

    /** "or no such MAKE" */
    private static void noSuchMake() {
        for (int make : new int[] {MIN, -2, -1, 4, 5, MAX}) {
            twins.none("make " + make, Twins.FED, d -> d.paper(make));
        }
        Desk desk = new Desk();
        check.same("make 4", desk.paper(4), -1);
        check.same("the number is still free", desk.paper(3), 0);
    }

    /** "each of a MAKE, empty at first" */
    private static void papersAreEmptyAtFirst() {
        Bench b = new Bench();
        for (int make = 0; make < 4; make++) {
            b.desk.paper(make);
        }
        check.same("plain", b.desk.about(0, 1), 0);
        check.same("styled", b.desk.about(1, 1), 0);
        check.same("its style 0 alone", b.sheetOf(1), "0:0 ");
        check.same("table", b.cellsOf(2), "||||||/".repeat(6));
        check.same("list", b.desk.about(3, 1), 0);
        for (int row = 0; row < 6; row++) {
            check.isFalse("no row is hidden", b.desk.hide(2, row, false));
        }
    }

    /** "NONE, and none come, if it would have more than 400": 400 come. */
    private static void tapeHas400() {
        Bench b = new Bench();
        int plain = b.desk.paper(0);
        for (int k = 1; k <= 20; k++) {
            int word = 0x41414141 + 0x01010101 * k;
            check.same("it has", b.desk.feed(word, word, word, word, word), 20L * k);
        }
        check.same("a 401st", b.desk.feed(0x7e7e7e7e, 0, 0, 0, 0), -1);
        check.same("400", b.desk.count(4), 400);
        check.same("typed", b.desk.type(plain, 0, 0, 400), 400);
        for (int k = 0; k < 20; k++) {
            check.same("in order", b.bytesOf(plain, 20 * k, 20 * k + 1), "" + (char) ('B' + k));
            check.same("to the last", b.bytesOf(plain, 20 * k + 19, 20 * k + 20), "" + (char) ('B' + k));
        }
        check.same("from the beginning again", b.desk.feed(0, 0, 0, 0, 0), 20);
    }

    /** The same: what waits stays. */
    private static void feedBeyond400() {
        Twins.Story full = b -> {
            Twins.FURNISHED.on(b);
            b.feed("f".repeat(399) + "l");
        };
        twins.none("more than 400", full, d -> d.feed(0x7e7e7e7e, 0x7e7e7e7e, 0x7e7e7e7e, 0x7e7e7e7e, 0x7e7e7e7e));
        Desk desk = new Desk();
        for (int k = 0; k < 19; k++) {
            desk.feed(MIN, -1, 0, 1, MAX);
        }
        check.same("380 and 20 are not more", desk.feed(0, 0, 0, 0, 0), 400);
    }

    /** "of each number the highest first" */
    private static void highestFirst() {
        Bench b = new Bench();
        int plain = b.desk.paper(0);
        b.desk.feed(0x20217e09, 0x0a222324, 0x25262728, 0x292a2b2c, 0x2d2e2f30);
        b.desk.type(plain, 0, 0, 20);
        check.same("bytes", b.bytesOf(plain), " !~\t\n\"#$%&'()*+,-./0");
    }

    /** "a byte that is none": CHARACTERS are 32 to 126, BREAK is 10, TAB is 9. */
    private static void bytesOfARow() {
        for (int make = 0; make < 2; make++) {
            for (int first = 0; first < 256; first += 64) {
                Desk desk = new Desk();
                desk.paper(make);
                int size = 0;
                for (int k = first; k < first + 64; k++) {
                    boolean fits = k == 9 || k == 10 || k >= 32 && k <= 126;
                    desk.feed(0x41004100 | k << 16 | k, 0, 0, 0, 0);
                    check.same("type byte " + k, desk.type(0, size, 0, 4), fits ? size + 4 : -1);
                    size += fits ? 4 : 0;
                    check.same("places behind byte " + k, desk.about(0, 1), size);
                    if (fits) {
                        check.same("byte " + k, desk.at(0, size - 1, 0), k);
                    }
                }
            }
        }
    }

    /** "a byte that is no CHARACTER", of a CELL */
    private static void bytesOfACell() {
        for (int first = 0; first < 256; first += 64) {
            Desk desk = new Desk();
            desk.paper(2);
            for (int k = first; k < first + 64; k++) {
                boolean fits = k >= 32 && k <= 126;
                desk.feed(0x41004100 | k << 16 | k, 0, 0, 0, 0);
                check.same("cell byte " + k, desk.cell(0, 1, 1, 4) ? 1 : 0, fits ? 1 : 0);
                if (fits) {
                    check.same("bytes", desk.cellOf(0, 1, 1), 4);
                    check.same("byte " + k, desk.told(3), k);
                }
            }
        }
    }

    /** "a byte that is no CHARACTER", of an ITEM */
    private static void bytesOfAnItem() {
        for (int first = 0; first < 256; first += 16) {
            Desk desk = new Desk();
            desk.paper(3);
            int size = 0;
            for (int k = first; k < first + 16; k++) {
                boolean fits = k >= 32 && k <= 126;
                desk.feed(0x41004100 | k << 16 | k, 0, 0, 0, 0);
                check.same("item byte " + k, desk.item(0, size, 0, 4), fits ? size + 1 : -1);
                size += fits ? 1 : 0;
                check.same("items behind byte " + k, desk.about(0, 1), size);
                if (fits) {
                    check.same("bytes", desk.textOf(0, size - 1), 4);
                    check.same("byte " + k, desk.told(3), k);
                }
            }
        }
    }

    /** "its first n bytes": the last of them is asked, the one behind it isn't. */
    private static void firstBytesAlone() {
        for (int make = 0; make < 4; make++) {
            Desk desk = new Desk();
            desk.paper(make);
            desk.feed(0x41420043, 0, 0, 0, 0);
            check.same("a wrong byte is behind them", typing(desk, make, 2), new int[] {2, 2, 1, 1}[make]);
            desk.feed(0x41420043, 0, 0, 0, 0);
            check.same("a wrong byte is the last of them", typing(desk, make, 3), make == 2 ? 0 : -1);
            desk.feed(0x00424344, 0, 0, 0, 0);
            check.same("a wrong byte is the first of them", typing(desk, make, 3), make == 2 ? 0 : -1);
            desk.feed(0x00424344, 0, 0, 0, 0);
            check.same("a wrong byte is the first, and none are typed", typing(desk, make, 0),
                    new int[] {2, 2, 1, 2}[make]);
        }
    }

    private static int typing(Desk desk, int make, int n) {
        if (make == 2) {
            return desk.cell(0, 0, 0, n) ? 1 : 0;
        }
        return make == 3 ? desk.item(0, 0, 0, n) : desk.type(0, 0, 0, n);
    }

    /** TYPING takes what waits; "the tape is empty all the same" when it is refused. */
    private static void tapeIsEmptyBehindTyping() {
        for (int n : new int[] {0, 1, 19, 20, 21, 40, 41, 60}) {
            for (int make = 0; make < 4; make++) {
                Desk desk = new Desk();
                desk.paper(make);
                for (int k = 0; k < 3; k++) {
                    desk.feed(0x41414141, 0x41414141, 0x41414141, 0x41414141, 0x41414141);
                }
                int due = make == 2 ? (n <= 20 ? 1 : 0) : make == 3 ? (n <= 40 ? 1 : -1) : n;
                check.same("make " + make + ", n " + n, typing(desk, make, n), due);
                check.same("the tape", desk.count(4), 0);
                check.same("an act", desk.count(3), due == -1 || make == 2 && due == 0 ? 0 : 1);
            }
        }
    }

    /** "no such place (0 to all)" */
    private static void placesOfTyping() {
        for (int paper = 0; paper < 2; paper++) {
            int p = paper;
            Desk empty = new Desk();
            empty.paper(paper);
            empty.feed(0x41414141, 0, 0, 0, 0);
            check.same("place 1 of an empty one", empty.type(0, 1, 0, 1), -1);
            empty.feed(0x41414141, 0, 0, 0, 0);
            check.same("place 0 of an empty one", empty.type(0, 0, 0, 1), 1);
            Bench b = new Bench();
            int row = b.row(paper, "abc");
            check.same("the last place", b.type(row, 3, 0, "3"), 4);
            check.same("the first place", b.type(row, 0, 0, "0"), 5);
            check.same("between", b.type(row, 1, 0, "12"), 7);
            check.same("bytes", b.bytesOf(row), "012abc3");
            int beyond = paper == 0 ? 8 : 4;
            for (int place : new int[] {MIN, -1, beyond, MAX}) {
                twins.alike("place " + place, Twins.FED, d -> d.type(p, place, 0, 5), "-1", Twins.FURNISHED);
                twins.alike("place " + place + " of no bytes", Twins.FED, d -> d.type(p, place, 0, 0), "-1",
                        Twins.FURNISHED);
            }
        }
    }

    /** "no such .. STYLE": 0 to 7, as many as the paper has. */
    private static void stylesOfTyping() {
        for (int style : new int[] {MIN, -1, 3, 7, 8, 256, MAX}) {
            twins.alike("style " + style, Twins.FED, d -> d.type(1, 0, style, 5), "-1", Twins.FURNISHED);
        }
        Bench b = new Bench();
        int styled = b.desk.paper(1);
        for (int style = 0; style < 8; style++) {
            check.same("not yet", b.type(styled, style, style + 1, "a"), -1);
            check.same("the last one", b.type(styled, style, style, "a"), style + 1);
            check.same("a new one", b.desk.style(styled, 10 + style, style), style < 7 ? style + 1 : -1);
        }
        check.same("styles", b.stylesOf(styled), "01234567");
        check.same("style 8", b.type(styled, 0, 8, "a"), -1);
    }

    /** "PLAIN: STYLE isn't asked" */
    private static void styleIsNotAskedOfPlain() {
        Bench b = new Bench();
        int plain = b.desk.paper(0);
        int[] styles = {MIN, -1, 0, 1, 7, 8, MAX};
        for (int k = 0; k < styles.length; k++) {
            check.same("style " + styles[k], b.type(plain, k, styles[k], "a"), k + 1);
        }
        check.same("all style 0", b.stylesOf(plain), "0000000");
    }

    /** "more than 1,000" */
    private static void thousandPlaces() {
        for (int make = 0; make < 2; make++) {
            int of = make;
            check.same("600 and 400", rowOf(make, 600).type(0, 600, 0, 400), 1000);
            check.same("600 and 400 ahead", rowOf(make, 600).type(0, 0, 0, 400), 1000);
            check.same("601 and 400", rowOf(make, 601).type(0, 601, 0, 400), -1);
            check.same("601 and 400 between", rowOf(make, 601).type(0, 300, 0, 400), -1);
            check.same("601 and 399", rowOf(make, 601).type(0, 601, 0, 399), 1000);
            check.same("999 and 1", rowOf(make, 999).type(0, 500, 0, 1), 1000);
            check.same("999 and 2", rowOf(make, 999).type(0, 999, 0, 2), -1);
            check.same("1,000 and none", rowOf(make, 1000).type(0, 1000, 0, 0), 1000);
            twins.alike("1,000 and 1", b -> {
                b.row(of, "x".repeat(999) + "y");
                b.feed("z");
            }, d -> d.type(0, 0, 0, 1), "-1", b -> b.row(of, "x".repeat(999) + "y"));
            Bench b = new Bench();
            int row = b.row(make, "x".repeat(999) + "y");
            check.same("the last byte", b.desk.at(row, 999, 0), 'y');
            check.noSuch("no byte 1,000", () -> b.desk.at(row, 1000, 0));
        }
    }

    /** A row of that many places, and 400 bytes on the tape. */
    private static Desk rowOf(int make, int places) {
        Bench b = new Bench();
        b.row(make, "x".repeat(places));
        b.feed("y".repeat(400));
        return b.desk;
    }

    /** "NONE, and nothing changes (the tape is empty all the same): another MAKE" */
    private static void typeAnotherMake() {
        twins.alike("type into a TABLE", Twins.FED, d -> d.type(2, 0, 0, 1), "-1", Twins.FURNISHED);
        twins.alike("type into a LIST", Twins.FED, d -> d.type(3, 0, 0, 1), "-1", Twins.FURNISHED);
        twins.alike("no bytes into a LIST", Twins.FED, d -> d.type(3, 0, 0, 0), "-1", Twins.FURNISHED);
    }

    /** "IllegalArgumentException: the tape has not so many, n below 0 (as everywhere; nothing changes)" */
    private static void notSoManyOnTheTape() {
        for (int n : new int[] {MIN, -1, 21, 400, MAX}) {
            for (int paper = 0; paper < 4; paper++) {
                int p = paper;
                String due = Check.BAD_ARGUMENT;
                twins.unchanged("type of " + n, Twins.FED, d -> d.type(p, 0, 0, n), due);
                twins.unchanged("cell of " + n, Twins.FED, d -> d.cell(p, 0, 0, n) ? 1 : 0, due);
                twins.unchanged("item of " + n, Twins.FED, d -> d.item(p, 0, 0, n), due);
            }
        }
        Desk desk = new Desk();
        for (int make = 0; make < 4; make++) {
            desk.paper(make);
        }
        check.badArgument("1 of an empty tape", () -> desk.type(0, 0, 0, 1));
        check.badArgument("1 of an empty tape, a cell", () -> desk.cell(2, 0, 0, 1) ? 1 : 0);
        check.badArgument("1 of an empty tape, an item", () -> desk.item(3, 0, 0, 1));
        check.same("none of an empty tape", desk.type(0, 0, 0, 0), 0);
        check.isTrue("none of an empty tape, a cell", desk.cell(2, 0, 0, 0));
        check.same("none of an empty tape, an item", desk.item(3, 0, 0, 0), 1);
        desk.feed(0x41414141, 0x41414141, 0x41414141, 0x41414141, 0x41414141);
        check.same("all of the tape", desk.type(0, 0, 0, 20), 20);
    }

    /** "NoSuchElementException: no such PAPER (as everywhere)" */
    private static void typingNeedsAPaper() {
        for (int paper : new int[] {MIN, -1, 4, 5, 6, MAX}) {
            twins.noSuch("type, paper " + paper, Twins.FED, d -> d.type(paper, 0, 0, 1));
            twins.noSuch("cell, paper " + paper, Twins.FED, d -> d.cell(paper, 0, 0, 1) ? 1 : 0);
            twins.noSuch("item, paper " + paper, Twins.FED, d -> d.item(paper, 0, 0, 1));
            twins.noSuch("style, paper " + paper, Twins.FED, d -> d.style(paper, 1, 1));
            twins.noSuch("hide, paper " + paper, Twins.FED, d -> d.hide(paper, 0, true) ? 1 : 0);
        }
    }

    /** The exception is told, and nothing changes, where NONE or false would be told, too. */
    private static void exceptionsAheadOfNone() {
        String due = Check.BAD_ARGUMENT;
        twins.unchanged("type at no place", Twins.FED, d -> d.type(0, 99, 0, 21), due);
        twins.unchanged("type of no style", Twins.FED, d -> d.type(1, 0, 8, -1), due);
        twins.unchanged("cell at none", Twins.FED, d -> d.cell(2, 6, 0, 21) ? 1 : 0, due);
        twins.unchanged("item at no level", Twins.FED, d -> d.item(3, 0, 6, 21), due);
        twins.unchanged("item of 41", Twins.FED, d -> d.item(3, 0, 0, 41), due);
    }

    /** "6 ROWS by 6 COLUMNS of CELLS" */
    private static void everyCell() {
        Bench b = new Bench();
        int table = b.desk.paper(2);
        StringBuilder due = new StringBuilder();
        for (int k = 0; k < 36; k++) {
            char sign = (char) ('0' + k);
            check.isTrue("cell " + k, b.cell(table, k / 6, k % 6, "" + sign));
            due.append(sign).append(k % 6 == 5 ? "|/" : "|");
        }
        check.same("cells", b.cellsOf(table), due.toString());
        b.desk.hide(table, 3, true);
        check.isTrue("a cell of a hidden row", b.cell(table, 3, 3, "h"));
        check.same("is read", b.cellText(table, 3, 3), "h");
    }

    /** "no such CELL" */
    private static void noSuchCell() {
        for (int wrong : new int[] {MIN, -1, 6, 7, 36, MAX}) {
            for (int right : new int[] {0, 5}) {
                twins.alike("cell row " + wrong, Twins.FED, d -> d.cell(2, wrong, right, 1) ? 1 : 0, "0",
                        Twins.FURNISHED);
                twins.alike("cell column " + wrong, Twins.FED, d -> d.cell(2, right, wrong, 1) ? 1 : 0, "0",
                        Twins.FURNISHED);
            }
            twins.alike("cell row and column " + wrong, Twins.FED, d -> d.cell(2, wrong, wrong, 0) ? 1 : 0, "0",
                    Twins.FURNISHED);
        }
    }

    /** "each a row of at most 20 CHARACTERS"; "n above 20" */
    private static void twentyInACell() {
        Bench b = new Bench();
        int table = b.desk.paper(2);
        for (int n = 0; n <= 20; n++) {
            check.isTrue(n + " characters", b.cell(table, 5, 5, "abcdefghijklmnopqrst".substring(0, n)));
            check.same("are there", b.cellText(table, 5, 5), "abcdefghijklmnopqrst".substring(0, n));
        }
        check.isFalse("21 characters", b.cell(table, 5, 5, "u".repeat(21)));
        check.same("20 are still there", b.cellText(table, 5, 5), "abcdefghijklmnopqrst");
        for (int n : new int[] {21, 22, 40, 400}) {
            twins.alike(n + " characters", story -> {
                Twins.FURNISHED.on(story);
                story.feed("u".repeat(n));
            }, d -> d.cell(2, 0, 0, n) ? 1 : 0, "0", Twins.FURNISHED);
        }
    }

    /** "TYPING of a CELL (what it was goes)" */
    private static void whatItWasGoes() {
        Bench b = new Bench();
        int table = b.table(new String[] {"left", "l".repeat(20), "right"});
        check.isTrue("shorter", b.cell(table, 0, 1, "m"));
        check.same("beside it stays", b.cellsOf(table, 1, 3), "left|m|right|/");
        check.isTrue("longer", b.cell(table, 0, 1, "n".repeat(20)));
        check.same("beside it still stays", b.cellsOf(table, 1, 3), "left|" + "n".repeat(20) + "|right|/");
        check.isTrue("empty", b.desk.cell(table, 0, 1, 0));
        check.same("nothing is left", b.cellsOf(table, 1, 3), "left||right|/");
    }

    /** "False likewise: another MAKE" */
    private static void cellAnotherMake() {
        for (int paper : new int[] {0, 1, 3}) {
            twins.alike("cell of paper " + paper, Twins.FED, d -> d.cell(paper, 0, 0, 1) ? 1 : 0, "0",
                    Twins.FURNISHED);
        }
    }

    /** "no such i (0 to all)" */
    private static void placesOfItems() {
        Bench b = new Bench();
        int list = b.desk.paper(3);
        check.same("item 1 of an empty list", b.item(list, 1, 0, "x"), -1);
        check.same("the first", b.item(list, 0, 0, "b"), 1);
        check.same("as the last", b.item(list, 1, 0, "d"), 2);
        check.same("ahead of the first", b.item(list, 0, 0, "a"), 3);
        check.same("between", b.item(list, 2, 0, "c"), 4);
        check.same("in order", b.itemsOf(list), "0,1,a;0,2,b;0,3,c;0,4,d;");
        for (int i : new int[] {MIN, -1, 4, MAX}) {
            twins.alike("item " + i, Twins.FED, d -> d.item(3, i, 0, 1), "-1", Twins.FURNISHED);
        }
    }

    /** "no such .. LEVEL": 0 to 5 */
    private static void levelsOfItems() {
        Bench b = new Bench();
        int list = b.desk.paper(3);
        for (int level = 0; level < 6; level++) {
            check.same("level " + level, b.item(list, level, level, "x"), level + 1);
            check.same("is told", b.desk.itemOf(list, level, 0), level);
        }
        for (int level : new int[] {MIN, -1, 6, 256, MAX}) {
            twins.alike("level " + level, Twins.FED, d -> d.item(3, 0, level, 1), "-1", Twins.FURNISHED);
        }
    }

    /** "each a row of at most 40 CHARACTERS"; "n above 40" */
    private static void fortyInAnItem() {
        String forty = "abcdefghijklmnopqrstuvwxyz0123456789ABCD";
        for (int n : new int[] {0, 1, 20, 21, 39, 40}) {
            Bench b = new Bench();
            int list = b.list("0" + forty, "0" + forty);
            check.same(n + " characters", b.item(list, 1, 0, forty.substring(0, n)), 3);
            check.same("are there", b.itemsOf(list),
                    "0,1," + forty + ";0,2," + forty.substring(0, n) + ";0,3," + forty + ";");
        }
        for (int n : new int[] {41, 42, 400}) {
            twins.alike(n + " characters", b -> {
                Twins.FURNISHED.on(b);
                b.feed("u".repeat(n));
            }, d -> d.item(3, 0, 0, n), "-1", Twins.FURNISHED);
        }
    }

    /** "30 ITEMS" */
    private static void thirtyItems() {
        Twins.Story full = b -> {
            int list = b.list("0a", "1b");
            for (int i = 2; i < 30; i++) {
                check.same("item " + i, b.desk.item(list, i, i % 6, 0), i + 1);
            }
            b.desk.paper(0);
        };
        Twins.Story fed = b -> {
            full.on(b);
            b.feed("x");
        };
        for (int i : new int[] {0, 15, 29, 30, 31}) {
            twins.alike("a 31st at " + i, fed, d -> d.item(0, i, 0, 1), "-1", full);
        }
        Bench b = new Bench();
        full.on(b);
        check.same("30", b.desk.about(0, 1), 30);
        b.desk.copyItems(0, 29, 30, true);
        check.same("29 and one more", b.item(0, 29, 0, "x"), 30);
    }

    /** "NONE likewise: another MAKE" */
    private static void itemAnotherMake() {
        for (int paper : new int[] {0, 1, 2}) {
            twins.alike("item of paper " + paper, Twins.FED, d -> d.item(paper, 0, 0, 1), "-1", Twins.FURNISHED);
        }
    }

    /** "a NAME (0 to 99) and a LOOK (0 to 999)"; "NONE: .. NAME, LOOK are not as told" */
    private static void namesAndLooks() {
        for (int name : new int[] {MIN, -1, 100, 101, MAX}) {
            twins.none("name " + name, Twins.FED, d -> d.style(1, name, 1));
        }
        for (int look : new int[] {MIN, -1, 1000, 1001, MAX}) {
            twins.none("look " + look, Twins.FED, d -> d.style(1, 1, look));
        }
        twins.none("both", Twins.FED, d -> d.style(1, 100, 1000));
        Bench b = new Bench();
        int styled = b.desk.paper(1);
        check.same("least of both", b.desk.style(styled, 1, 0), 1);
        check.same("most of both", b.desk.style(styled, 99, 999), 2);
        check.same("most and least", b.desk.style(styled, 98, 0), 3);
        check.same("least and most", b.desk.style(styled, 2, 999), 4);
        check.same("are kept", b.sheetOf(styled), "0:0 1:0 99:999 98:0 2:999 ");
    }

    /** "no two NAMES alike"; "NONE: .. one has that NAME"; LOOKS may be alike. */
    private static void namesAlike() {
        for (int name : new int[] {0, 5, 6}) {
            for (int look : new int[] {0, 50, 60, 999}) {
                twins.none("name " + name + " again", Twins.FED, d -> d.style(1, name, look));
            }
        }
        Bench b = new Bench();
        int styled = b.desk.paper(1);
        int other = b.desk.paper(1);
        for (int style = 1; style < 8; style++) {
            check.same("a look again", b.desk.style(styled, style, 7), style);
        }
        check.same("the name in another paper", b.desk.style(other, 7, 7), 1);
    }

    /** "NONE: .. there are 8" */
    private static void eightStyles() {
        Twins.Story full = b -> {
            int styled = b.desk.paper(1);
            for (int style = 1; style < 8; style++) {
                check.same("style", b.desk.style(styled, 10 * style, style), style);
                check.same("styles", b.desk.about(styled, 2), style + 1);
            }
            b.type(styled, 0, 7, "x");
        };
        twins.none("a ninth", full, d -> d.style(0, 1, 1));
        Bench b = new Bench();
        full.on(b);
        check.same("the eighth", b.desk.styleOf(0, 7, 0), 70);
        check.noSuch("style 8", () -> b.desk.styleOf(0, 8, 0));
    }

    /** "A new STYLE of a STYLED PAPER .. NONE: another MAKE" */
    private static void styleAnotherMake() {
        for (int paper : new int[] {0, 2, 3}) {
            twins.none("style of paper " + paper, Twins.FED, d -> d.style(paper, 1, 1));
        }
    }

    /** "whether it was (an ACT if there is such a ROW)" */
    private static void everyRowIsHidden() {
        Desk desk = new Desk();
        desk.paper(2);
        for (int row = 0; row < 6; row++) {
            check.isFalse("it wasn't", desk.hide(0, row, true));
        }
        for (int row = 0; row < 6; row++) {
            check.isTrue("it was", desk.hide(0, row, true));
        }
        for (int row = 0; row < 6; row++) {
            check.isTrue("it still was", desk.hide(0, row, false));
            check.isFalse("it isn't now", desk.hide(0, row, false));
        }
        check.same("acts", desk.count(3), 20);
        for (int row = 5; row >= 3; row--) {
            desk.undo();
            desk.undo();
            check.same("hidden again", desk.copyBox(0, row, 0, row, 0, false), -1);
            check.same("the one ahead isn't", desk.copyBox(0, row - 1, 0, row - 1, 0, false), 5 - row);
        }
    }

    /** "False: another MAKE, no such ROW": no ACT then. */
    private static void hideNoSuchRow() {
        for (int row : new int[] {MIN, -1, 6, 7, MAX}) {
            twins.unchanged("hide row " + row, Twins.FED, d -> d.hide(2, row, true) ? 1 : 0, "0");
            twins.unchanged("show row " + row, Twins.FED, d -> d.hide(2, row, false) ? 1 : 0, "0");
        }
        for (int paper : new int[] {0, 1, 3}) {
            twins.unchanged("hide in paper " + paper, Twins.FED, d -> d.hide(paper, 2, true) ? 1 : 0, "0");
        }
    }
}
