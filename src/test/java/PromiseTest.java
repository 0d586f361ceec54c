/** For each promise of the document: ordinary inputs, the edges that it names, wrong inputs. */
public final class PromiseTest {
    private static final Check check = new Check();

    public static void main(String[] args) {
        newObject();
        paper();
        feed();
        type();
        typeWrong();
        cell();
        item();
        style();
        hide();
        copyRow();
        cutStyles();
        copyBox();
        copyItems();
        copyTooLong();
        joinLike();
        joinUnlike();
        joinManyItems();
        joinLimits();
        pin();
        shelf();
        shelfFull();
        shelfUsedAgain();
        piece();
        putRowPlain();
        putRowByName();
        putRowByLook();
        putRowStyleOnce();
        putRowFull();
        putRowWrong();
        putBox();
        putBoxLosses();
        putItemsLevels();
        putItemsParts();
        putItemsFull();
        lost();
        undo();
        undoOfEachAct();
        about();
        at();
        styleOf();
        itemOf();
        outTexts();
        told();
        count();
        check.end();
    }

    private static String times(String text, int n) {
        return text.repeat(n);
    }

    private static void newObject() {
        Desk desk = new Desk();
        for (int what = 0; what < 6; what++) {
            check.same("new: count " + what, desk.count(what), 0);
        }
        for (int kind = 0; kind < 8; kind++) {
            check.same("new: lost " + kind, desk.lost(kind), 0);
        }
        check.isFalse("new: undo", desk.undo());
        check.same("NONE", CutDesk.NONE, -1);
        check.noSuch("new: about", () -> desk.about(0, 0));
        check.noSuch("new: piece", () -> desk.piece(0, 0));
    }

    private static void paper() {
        Desk desk = new Desk();
        check.same("paper(-1)", desk.paper(-1), -1);
        check.same("paper(4)", desk.paper(4), -1);
        for (int k = 0; k < 6; k++) {
            check.same("paper number", desk.paper(k % 4), k);
            check.same("paper make", desk.about(k, 0), k % 4);
        }
        check.same("a seventh paper", desk.paper(0), -1);
        check.same("papers", desk.count(0), 6);
        check.same("paper is no act", desk.count(3), 0);
    }

    private static void feed() {
        Desk desk = new Desk();
        int paper = desk.paper(0);
        check.same("feed", desk.feed(0x41424344, 0x45464748, 0x494a4b4c, 0x4d4e4f50, 0x51525354), 20);
        check.same("type all", desk.type(paper, 0, 0, 20), 20);
        for (int k = 0; k < 20; k++) {
            check.same("highest byte first", desk.at(paper, k, 0), 'A' + k);
        }
        for (int k = 1; k <= 20; k++) {
            check.same("feed grows", desk.feed(0x20202020, 0, 0, 0, 0), 20L * k);
        }
        check.same("feed beyond 400", desk.feed(0, 0, 0, 0, 0), -1);
        check.same("tape stays", desk.count(4), 400);
    }

    private static void type() {
        Bench b = new Bench();
        int plain = b.desk.paper(0);
        check.same("type", b.type(plain, 0, 99, "ad"), 2);
        check.same("type between", b.type(plain, 1, -5, "b\tc\n"), 6);
        check.same("bytes", b.bytesOf(plain), "ab\tc\nd");
        check.same("styles of plain", b.stylesOf(plain), "000000");
        check.same("the rest of the tape goes", b.desk.count(4), 0);
        check.same("type at the end", b.type(plain, 6, 0, " ~"), 8);
        check.same("type of no bytes", b.desk.type(plain, 8, 0, 0), 8);
        check.same("acts", b.desk.count(3), 4);
        int styled = b.desk.paper(1);
        b.desk.style(styled, 4, 40);
        check.same("type styled", b.type(styled, 0, 1, "xy"), 2);
        check.same("type style 0", b.type(styled, 1, 0, "-"), 3);
        check.same("styled bytes", b.bytesOf(styled), "x-y");
        check.same("styles", b.stylesOf(styled), "101");
    }

    private static void typeWrong() {
        Bench b = new Bench();
        int plain = b.row(0, times("x", 999));
        int styled = b.row(1, "s");
        int table = b.desk.paper(2);
        int acts = b.desk.count(3);
        check.same("too many", b.type(plain, 0, 0, "ab"), -1);
        check.same("the tape is empty all the same", b.desk.count(4), 0);
        check.same("another make", b.type(table, 0, 0, "a"), -1);
        check.same("no such place", b.type(styled, 2, 0, "a"), -1);
        check.same("place below 0", b.type(styled, -1, 0, "a"), -1);
        check.same("no such style", b.type(styled, 0, 1, "a"), -1);
        check.same("style below 0", b.type(styled, 0, -1, "a"), -1);
        int[] none = {0, 8, 11, 13, 31, 127, 128, 255};
        for (int wrong : none) {
            check.same("a byte that is none", b.type(styled, 0, 0, "a" + (char) wrong), -1);
        }
        check.same("nothing changed", b.bytesOf(styled), "s");
        check.same("no acts", b.desk.count(3), acts);
        b.feed("a");
        check.badArgument("n above the tape", () -> b.desk.type(styled, 0, 0, 21));
        check.badArgument("n below 0", () -> b.desk.type(table, 0, 0, -1));
        check.noSuch("no such paper", () -> b.desk.type(3, 0, 0, 1));
        check.noSuch("paper below 0", () -> b.desk.type(-1, 0, 0, 1));
        check.noSuch("the paper is asked first", () -> b.desk.type(3, 0, 0, -1));
        check.same("tape as it was", b.desk.count(4), 20);
        check.same("the last place", b.desk.type(plain, 999, 0, 1), 1000);
        b.feed("ab\u0001");
        check.same("bytes behind n aren't asked", b.desk.type(styled, 0, 0, 2), 3);
        b.feed("ab\t");
        check.isTrue("nor for a cell", b.desk.cell(table, 0, 0, 2));
    }

    private static void cell() {
        Bench b = new Bench();
        int table = b.desk.paper(2);
        int list = b.desk.paper(3);
        check.isTrue("cell", b.cell(table, 0, 0, "first"));
        check.isTrue("last cell", b.cell(table, 5, 5, times("x", 20)));
        check.isTrue("cell anew", b.cell(table, 0, 0, "ab"));
        check.same("what it was goes", b.cellText(table, 0, 0), "ab");
        check.same("20 characters", b.cellText(table, 5, 5), times("x", 20));
        check.isTrue("empty cell", b.desk.cell(table, 0, 0, 0));
        check.same("empty", b.cellText(table, 0, 0), "");
        check.same("acts", b.desk.count(3), 4);
        check.isFalse("21 characters", b.cell(table, 1, 1, times("x", 21)));
        check.same("tape empty", b.desk.count(4), 0);
        check.isFalse("a tab", b.cell(table, 1, 1, "a\t"));
        check.isFalse("a break", b.cell(table, 1, 1, "\n"));
        check.isFalse("127", b.cell(table, 1, 1, "\u007f"));
        check.isFalse("row 6", b.cell(table, 6, 0, "a"));
        check.isFalse("column 6", b.cell(table, 0, 6, "a"));
        check.isFalse("row -1", b.cell(table, -1, 0, "a"));
        check.isFalse("column -1", b.cell(table, 0, -1, "a"));
        check.isFalse("another make", b.cell(list, 0, 0, "a"));
        check.same("no acts", b.desk.count(3), 4);
        b.feed("a");
        check.badArgument("above the tape", () -> b.desk.cell(table, 0, 0, 21) ? 1 : 0);
        check.badArgument("below 0", () -> b.desk.cell(list, 0, 0, -1) ? 1 : 0);
        check.noSuch("no paper", () -> b.desk.cell(2, 0, 0, 1) ? 1 : 0);
        check.same("tape stays", b.desk.count(4), 20);
    }

    private static void item() {
        Bench b = new Bench();
        int list = b.list("0one", "5two");
        int row = b.desk.paper(0);
        check.same("item between", b.item(list, 1, 3, times("m", 40)), 3);
        check.same("items", b.itemsOf(list), "0,1,one;3,1," + times("m", 40) + ";5,1,two;");
        check.same("41 characters", b.item(list, 0, 0, times("m", 41)), -1);
        check.same("tape empty", b.desk.count(4), 0);
        check.same("no such i", b.item(list, 4, 0, "a"), -1);
        check.same("i below 0", b.item(list, -1, 0, "a"), -1);
        check.same("level 6", b.item(list, 0, 6, "a"), -1);
        check.same("level -1", b.item(list, 0, -1, "a"), -1);
        check.same("tab", b.item(list, 0, 0, "\t"), -1);
        check.same("another make", b.item(row, 0, 0, "a"), -1);
        check.badArgument("above the tape", () -> b.desk.item(list, 0, 0, 1));
        check.badArgument("below 0", () -> b.desk.item(list, 0, 0, -1));
        check.noSuch("no paper", () -> b.desk.item(2, 0, 0, 0));
        for (int i = 3; i < 30; i++) {
            check.same("item of no bytes", b.desk.item(list, i, 0, 0), i + 1);
        }
        check.same("a 31st", b.desk.item(list, 0, 0, 0), -1);
        check.same("30 items", b.desk.about(list, 1), 30);
    }

    private static void style() {
        Bench b = new Bench();
        int styled = b.desk.paper(1);
        int plain = b.desk.paper(0);
        check.same("name 0 is there", b.desk.style(styled, 0, 7), -1);
        check.same("name 100", b.desk.style(styled, 100, 7), -1);
        check.same("name -1", b.desk.style(styled, -1, 7), -1);
        check.same("look 1000", b.desk.style(styled, 1, 1000), -1);
        check.same("look -1", b.desk.style(styled, 1, -1), -1);
        check.same("another make", b.desk.style(plain, 1, 1), -1);
        check.noSuch("no paper", () -> b.desk.style(2, 1, 1));
        check.same("no acts", b.desk.count(3), 0);
        check.same("first", b.desk.style(styled, 99, 999), 1);
        check.same("name again", b.desk.style(styled, 99, 1), -1);
        for (int s = 2; s < 8; s++) {
            check.same("looks may be alike", b.desk.style(styled, s, 0), s);
        }
        check.same("a ninth", b.desk.style(styled, 50, 1), -1);
        check.same("sheet", b.sheetOf(styled), "0:0 99:999 2:0 3:0 4:0 5:0 6:0 7:0 ");
        check.same("acts", b.desk.count(3), 7);
    }

    private static void hide() {
        Bench b = new Bench();
        int table = b.desk.paper(2);
        int list = b.desk.paper(3);
        check.isFalse("hide", b.desk.hide(table, 5, true));
        check.isTrue("hide again", b.desk.hide(table, 5, true));
        check.isTrue("show", b.desk.hide(table, 5, false));
        check.isFalse("show again", b.desk.hide(table, 5, false));
        check.same("all are acts", b.desk.count(3), 4);
        check.isFalse("row 6", b.desk.hide(table, 6, true));
        check.isFalse("row -1", b.desk.hide(table, -1, true));
        check.isFalse("another make", b.desk.hide(list, 0, true));
        check.noSuch("no paper", () -> b.desk.hide(2, 0, true) ? 1 : 0);
        check.same("no more acts", b.desk.count(3), 4);
    }

    private static void copyRow() {
        Bench b = new Bench();
        int plain = b.row(0, "a\tb\ncd");
        int table = b.desk.paper(2);
        check.same("copy", b.desk.copyRow(plain, 1, 5, false), 0);
        check.same("form", b.form(0), "\tb\nc");
        check.same("copy is no act", b.desk.count(3), 1);
        check.same("paper stays", b.bytesOf(plain), "a\tb\ncd");
        check.same("cut", b.desk.copyRow(plain, 4, 6, true), 1);
        check.same("cut form", b.form(1), "cd");
        check.same("places went", b.bytesOf(plain), "a\tb\n");
        check.same("cut is an act", b.desk.count(3), 2);
        check.same("cut ahead", b.desk.copyRow(plain, 0, 1, true), 2);
        check.same("the rest moves up", b.bytesOf(plain), "\tb\n");
        check.same("none", b.desk.copyRow(plain, 1, 1, true), -1);
        check.same("wrong way round", b.desk.copyRow(plain, 2, 1, true), -1);
        check.same("below 0", b.desk.copyRow(plain, -1, 1, true), -1);
        check.same("beyond", b.desk.copyRow(plain, 0, 4, true), -1);
        check.same("another make", b.desk.copyRow(table, 0, 1, true), -1);
        check.noSuch("no paper", () -> b.desk.copyRow(2, 0, 1, false));
        check.same("numbers are used by pieces alone", b.desk.copyRow(plain, 0, 3, false), 3);
        check.same("acts", b.desk.count(3), 3);
    }

    private static void cutStyles() {
        Bench b = new Bench();
        int from = b.desk.paper(1);
        b.desk.style(from, 99, 999);
        b.desk.style(from, 98, 0);
        b.type(from, 0, 0, "ab");
        b.type(from, 2, 1, "cd");
        b.type(from, 4, 2, "ef");
        b.desk.copyRow(from, 1, 3, true);
        check.same("the styles move up, too", b.stylesOf(from), "0122");
        b.desk.copyRow(from, 0, 4, false);
        int to = b.desk.paper(1);
        b.desk.putRow(to, 1, 0, 0);
        check.same("the piece has them", b.sheetOf(to), "0:0 99:999 98:0 ");
        check.same("at their places", b.stylesOf(to), "0122");
    }

    private static void copyBox() {
        Bench b = new Bench();
        int table = b.table(new String[] {"a", "b", "c"}, new String[] {"d", "", "f"}, new String[] {"g", "h", "i"});
        int list = b.list("0x");
        int acts = b.desk.count(3);
        check.same("copy", b.desk.copyBox(table, 0, 1, 2, 2, false), 0);
        check.same("form", b.form(0), "b\tc\n\tf\nh\ti");
        check.same("no act", b.desk.count(3), acts);
        b.desk.hide(table, 1, true);
        check.same("cut round the hidden row", b.desk.copyBox(table, 0, 0, 2, 1, true), 1);
        check.same("hidden left out", b.form(1), "a\tb\ng\th");
        check.same("told", b.desk.piece(1, 5), 1);
        check.same("rows", b.desk.piece(1, 2), 2);
        check.same("hidden cells stay", b.cellsOf(table), "||c||||/d||f||||/||i||||/||||||/||||||/||||||/");
        check.same("acts", b.desk.count(3), acts + 2);
        check.same("all hidden", b.desk.copyBox(table, 1, 0, 1, 2, true), -1);
        check.same("rows wrong way round", b.desk.copyBox(table, 2, 0, 0, 2, true), -1);
        check.same("columns wrong way round", b.desk.copyBox(table, 0, 2, 2, 0, true), -1);
        check.same("beyond", b.desk.copyBox(table, 0, 0, 6, 0, true), -1);
        check.same("beyond columns", b.desk.copyBox(table, 0, 0, 0, 6, true), -1);
        check.same("below 0", b.desk.copyBox(table, -1, 0, 0, 0, true), -1);
        check.same("column below 0", b.desk.copyBox(table, 0, -1, 0, 0, true), -1);
        check.same("another make", b.desk.copyBox(list, 0, 0, 0, 0, true), -1);
        check.noSuch("no paper", () -> b.desk.copyBox(2, 0, 0, 0, 0, true));
        check.same("one empty cell", b.desk.copyBox(table, 5, 5, 5, 5, false), 2);
        check.same("its form", b.desk.plain(2), 0);
        check.same("acts", b.desk.count(3), acts + 2);
    }

    private static void copyItems() {
        Bench b = new Bench();
        int list = b.list("0a", "2b", "3c", "2d", "1e", "2f");
        int table = b.desk.paper(2);
        check.same("copy", b.desk.copyItems(list, 1, 6, false), 0);
        check.same("form", b.form(0), "  1. b\n    1. c\n  2. d\n1. e\n  1. f");
        check.same("cut", b.desk.copyItems(list, 1, 3, true), 1);
        check.same("cut form", b.form(1), "1. b\n  1. c");
        check.same("items went", b.itemsOf(list), "0,1,a;2,1,d;1,1,e;2,1,f;");
        check.same("none", b.desk.copyItems(list, 2, 2, true), -1);
        check.same("wrong way round", b.desk.copyItems(list, 3, 2, true), -1);
        check.same("beyond", b.desk.copyItems(list, 0, 5, true), -1);
        check.same("below 0", b.desk.copyItems(list, -1, 2, true), -1);
        check.same("another make", b.desk.copyItems(table, 0, 1, true), -1);
        check.noSuch("no paper", () -> b.desk.copyItems(5, 0, 1, true));
        int many = b.desk.paper(3);
        for (int i = 0; i < 12; i++) {
            b.desk.item(many, i, 4, 0);
        }
        b.desk.copyItems(many, 0, 12, false);
        check.same("numbers of two digits", b.form(2), "1. \n2. \n3. \n4. \n5. \n6. \n7. \n8. \n9. \n10. \n11. \n12. ");
    }

    private static void copyTooLong() {
        Bench b = new Bench();
        int list = b.desk.paper(3);
        for (int i = 0; i < 22; i++) {
            b.item(list, i, 0, times("x", 40));
        }
        // 9 * 43 + 13 * 44 bytes and 21 BREAKS make 980; a 23rd adds a BREAK, "23. " and its own.
        b.item(list, 22, 0, times("x", 16));
        int acts = b.desk.count(3);
        check.same("1,001 bytes", b.desk.copyItems(list, 0, 23, true), -1);
        check.same("nothing was cut", b.desk.about(list, 1), 23);
        check.same("no act", b.desk.count(3), acts);
        check.same("no piece", b.desk.count(1), 0);
        b.desk.undo();
        b.item(list, 22, 0, times("x", 15));
        check.same("1,000 bytes", b.desk.copyItems(list, 0, 23, false), 0);
        check.same("form", b.desk.plain(0), 1000);
        b.desk.copyItems(list, 22, 23, false);
        check.same("joined beyond 1,000", b.desk.join(0, 1), -1);
    }

    private static void joinLike() {
        Bench b = new Bench();
        int styled = b.desk.paper(1);
        b.desk.style(styled, 3, 30);
        b.type(styled, 0, 1, "ab");
        int plain = b.row(0, "xy");
        b.desk.copyRow(styled, 0, 2, false);
        b.desk.copyRow(plain, 0, 2, false);
        check.same("rows", b.desk.join(1, 0), 2);
        check.same("row behind row", b.form(2), "xyab");
        check.same("sort", b.desk.piece(2, 0), 0);
        b.desk.putRow(styled, 2, 2, 0);
        check.same("styles come along", b.stylesOf(styled), "110011");
        int table = b.table(new String[] {"a", "b"}, new String[] {"c", ""});
        b.desk.hide(table, 4, true);
        b.desk.copyBox(table, 0, 0, 1, 1, false);
        b.desk.copyBox(table, 1, 0, 4, 1, false);
        check.same("boxes", b.desk.join(3, 4), 5);
        check.same("rows below", b.form(5), "a\tb\nc\t\nc\t\n\t\n\t");
        check.same("sort", b.desk.piece(5, 0), 1);
        check.same("rows", b.desk.piece(5, 2), 5);
        check.same("columns", b.desk.piece(5, 3), 2);
        check.same("hidden told", b.desk.piece(5, 5), 1);
        check.same("with itself", b.desk.join(5, 5), 6);
        check.same("added up", b.desk.piece(6, 5), 2);
        int list = b.list("1p", "2q", "0r");
        b.desk.copyItems(list, 0, 2, false);
        b.desk.copyItems(list, 2, 3, false);
        check.same("items", b.desk.join(7, 8), 9);
        check.same("numbered in the piece", b.form(9), "  1. p\n    1. q\n1. r");
        check.same("items of it", b.desk.piece(9, 2), 3);
        check.same("columns of items", b.desk.piece(9, 3), -1);
        check.noSuch("no piece", () -> b.desk.join(99, 9));
        check.noSuch("no other", () -> b.desk.join(9, 99));
    }

    private static void joinUnlike() {
        Bench b = new Bench();
        int styled = b.desk.paper(1);
        b.desk.style(styled, 3, 30);
        b.type(styled, 0, 1, "ab");
        int table = b.table(new String[] {"c", "d"});
        b.desk.hide(table, 1, true);
        int list = b.list("2e", "3f");
        b.desk.copyRow(styled, 0, 2, false);
        b.desk.copyBox(table, 0, 0, 1, 1, false);
        b.desk.copyItems(list, 0, 2, false);
        check.same("row and box", b.desk.join(0, 1), 3);
        check.same("form", b.form(3), "ab\nc\td");
        check.same("sort", b.desk.piece(3, 0), 0);
        check.same("no rows", b.desk.piece(3, 2), -1);
        check.same("no columns", b.desk.piece(3, 3), -1);
        check.same("hidden", b.desk.piece(3, 5), 1);
        b.desk.putRow(styled, 3, 0, 0);
        check.same("style 0", b.stylesOf(styled), "00000011");
        check.same("no losses of styles", b.losses(), "0 0 0 0 0 0 0 1");
        check.same("items and box", b.desk.join(2, 1), 4);
        check.same("form", b.form(4), "1. e\n  1. f\nc\td");
        b.desk.copyBox(table, 0, 0, 0, 2, false);
        check.same("boxes of unlike columns", b.desk.join(1, 5), 6);
        check.same("a row", b.desk.piece(6, 0), 0);
        check.same("form", b.form(6), "c\td\nc\td\t");
    }

    private static void joinManyItems() {
        Bench b = new Bench();
        int list = b.desk.paper(3);
        for (int i = 0; i < 23; i++) {
            b.desk.item(list, i, i == 0 ? 1 : 0, 0);
        }
        b.desk.copyItems(list, 1, 23, false);
        b.desk.copyItems(list, 0, 23, false);
        check.same("levels of both", b.desk.join(0, 1), 2);
        b.desk.plain(2);
        check.same("the one of level 1 stands in", b.out(86, 104), "20. \n21. \n22. \n  1");
        b.desk.join(0, 0);
        b.desk.join(3, 3);
        check.same("110 items", b.desk.join(4, 0), 5);
        check.same("are told", b.desk.piece(5, 2), 110);
        int end = b.desk.plain(5);
        check.same("numbers of three digits", b.out(end - 17, end), "108. \n109. \n110. ");
        check.same("bytes", b.desk.piece(5, 1), 9 * 4 + 90 * 5 + 11 * 6 - 1);
        check.same("220 are too long", b.desk.join(5, 5), -1);
        b.desk.copyItems(list, 1, 23, false);
        b.desk.join(5, 6);
        check.same("154", b.desk.join(7, 6), 8);
        check.same("308 are too many", b.desk.join(8, 8), -1);
        int empty = b.desk.paper(3);
        check.same("30 come", b.desk.putItems(empty, 8, 0, 0), 30);
        check.same("the others don't", b.losses(), "0 0 0 0 0 0 124 0");
    }

    private static void joinLimits() {
        Bench b = new Bench();
        int table = b.desk.paper(2);
        b.desk.copyBox(table, 0, 0, 5, 0, false);
        b.desk.copyBox(table, 0, 0, 0, 0, false);
        check.same("12 rows", b.desk.join(0, 0), 2);
        check.same("a box", b.desk.piece(2, 0), 1);
        check.same("of 12", b.desk.piece(2, 2), 12);
        check.same("13 rows", b.desk.join(2, 1), 3);
        check.same("a row", b.desk.piece(3, 0), 0);
        check.same("12 breaks", b.desk.piece(3, 1), 12);
        int plain = b.row(0, times("x", 500));
        int other = b.row(0, times("y", 499));
        check.same("500", b.desk.copyRow(plain, 0, 500, false), 4);
        check.same("1,000 of rows", b.desk.join(4, 4), 5);
        check.same("the 1,000", b.desk.plain(5), 1000);
        b.desk.copyRow(plain, 0, 1, false);
        check.same("1,001 of rows", b.desk.join(5, 6), -1);
        check.same("499", b.desk.copyRow(other, 0, 499, false), 7);
        int wide = b.table(new String[] {times("z", 20), times("z", 20)});
        b.desk.copyBox(wide, 0, 0, 0, 1, false);
        check.same("499 with 41 and more", b.desk.join(7, 8), 9);
        check.same("541", b.desk.piece(9, 1), 541);
        check.same("541 and 500 are too many", b.desk.join(9, 4), -1);
        check.same("none came", b.desk.count(1), 6);
        check.same("the next number", b.desk.copyRow(plain, 0, 1, false), 10);
    }

    private static void pin() {
        Bench b = new Bench();
        int plain = b.row(0, "abcdefgh");
        for (int k = 0; k < 6; k++) {
            b.desk.copyRow(plain, k, k + 1, false);
        }
        check.isFalse("isn't already", b.desk.pin(0, false));
        for (int k = 0; k < 4; k++) {
            check.isTrue("pin", b.desk.pin(k, true));
        }
        check.isFalse("is already", b.desk.pin(3, true));
        check.isFalse("a fifth", b.desk.pin(4, true));
        check.same("4 pinned", b.desk.count(2), 4);
        for (int k = 6; k < 10; k++) {
            b.desk.copyRow(plain, 0, 1, false);
        }
        check.same("6 and 4", b.desk.count(1), 10);
        check.isTrue("unpin the third", b.desk.pin(2, false));
        check.noSuch("it is the eldest that isn't pinned", () -> b.desk.piece(2, 0));
        check.same("9 are left", b.desk.count(1), 9);
        check.isTrue("pin a young one", b.desk.pin(9, true));
        b.desk.copyRow(plain, 0, 1, false);
        check.isTrue("unpin it", b.desk.pin(9, false));
        check.noSuch("the eldest goes instead", () -> b.desk.piece(4, 0));
        check.same("it stays", b.desk.piece(9, 4), 0);
        check.noSuch("no piece", () -> b.desk.pin(2, true) ? 1 : 0);
        check.noSuch("never a piece", () -> b.desk.pin(-1, true) ? 1 : 0);
    }

    private static void shelf() {
        Bench b = new Bench();
        int plain = b.row(0, "abcdefgh");
        for (int k = 0; k < 7; k++) {
            check.same("number", b.desk.copyRow(plain, k, k + 1, false), k);
        }
        check.same("6 are kept", b.desk.count(1), 6);
        check.noSuch("the eldest went", () -> b.desk.plain(0));
        check.same("the next stays", b.form(1), "b");
        check.same("a join of the eldest", b.desk.join(1, 6), 7);
        check.noSuch("it went", () -> b.desk.piece(1, 1));
        check.same("but is in the new one", b.form(7), "bg");
        b.desk.undo();
        check.same("the shelf stays on undo", b.desk.count(1), 6);
    }

    private static void shelfFull() {
        Bench b = new Bench();
        int plain = b.row(0, "abcdefghijklmnop");
        for (int k = 0; k < 4; k++) {
            b.desk.copyRow(plain, k, k + 1, false);
            b.desk.pin(k, true);
        }
        for (int k = 4; k < 16; k++) {
            check.same("one more", b.desk.copyRow(plain, k, k + 1, false), k);
            check.same("6 that aren't pinned", b.desk.count(1), Math.min(k + 1, 10));
        }
        for (int k = 0; k < 16; k++) {
            int number = k;
            if (k < 4 || k > 9) {
                check.same("is there", b.form(k), "" + (char) ('a' + k));
            } else {
                check.noSuch("went", () -> b.desk.plain(number));
            }
        }
    }

    /** What a PIECE that went has been doesn't show in one that comes later. */
    private static void shelfUsedAgain() {
        Bench b = new Bench();
        int styled = b.desk.paper(1);
        b.desk.style(styled, 1, 1);
        b.type(styled, 0, 1, "abcdef");
        int table = b.desk.paper(2);
        b.desk.hide(table, 0, true);
        for (int k = 0; k < 8; k++) {
            b.desk.copyRow(styled, 0, 6, false);
            b.desk.copyBox(table, 0, 0, 1, 0, false);
        }
        b.desk.hide(table, 0, false);
        for (int k = 0; k < 8; k++) {
            int box = b.desk.copyBox(table, 0, 0, 1, 0, false);
            check.same("no hidden rows", b.desk.piece(box, 5), 0);
            int row = b.desk.copyRow(styled, 0, 3, false);
            int joined = b.desk.join(row, box);
            b.desk.putBox(table, joined, 0, 0);
            check.same("no styles", b.losses(), "0 0 0 0 0 0 0 0");
            b.desk.undo();
        }
    }

    private static void piece() {
        Bench b = new Bench();
        int plain = b.row(0, "abc");
        int table = b.desk.paper(2);
        int list = b.list("0x", "1y");
        b.desk.hide(table, 2, true);
        b.desk.hide(table, 3, true);
        b.desk.copyRow(plain, 0, 3, false);
        b.desk.copyBox(table, 0, 1, 4, 3, false);
        b.desk.copyItems(list, 0, 2, false);
        int[][] due = {{0, 3, -1, -1, 0, 0}, {1, 8, 3, 3, 0, 2}, {2, 11, 2, -1, 0, 0}};
        for (int p = 0; p < 3; p++) {
            for (int what = 0; what < 6; what++) {
                check.same("piece " + p + " " + what, b.desk.piece(p, what), due[p][what]);
            }
        }
        b.desk.pin(1, true);
        check.same("pinned", b.desk.piece(1, 4), 1);
        check.noSuch("what 6", () -> b.desk.piece(0, 6));
        check.noSuch("what -1", () -> b.desk.piece(0, -1));
        check.noSuch("no piece", () -> b.desk.piece(3, 0));
    }

    private static void putRowPlain() {
        Bench b = new Bench();
        int styled = b.desk.paper(1);
        b.desk.style(styled, 1, 0);
        b.type(styled, 0, 1, "ab\t");
        b.type(styled, 3, 0, "c");
        int plain = b.row(0, "<>");
        b.desk.copyRow(styled, 0, 4, false);
        check.same("put", b.desk.putRow(plain, 0, 1, 77), 4);
        check.same("bytes", b.bytesOf(plain), "<ab\tc>");
        check.same("losses", b.losses(), "3 0 0 0 0 0 0 0");
        int table = b.table(new String[] {"p", "q"}, new String[] {"r"});
        b.desk.hide(table, 2, true);
        b.desk.copyBox(table, 0, 0, 2, 1, false);
        check.same("box", b.desk.putRow(plain, 1, 6, 0), 6);
        check.same("led into text", b.bytesOf(plain), "<ab\tc>p\tq\nr\t");
        check.same("losses of hidden", b.losses(), "0 0 0 0 0 0 0 1");
        int list = b.list("1s", "2t");
        b.desk.copyItems(list, 0, 2, false);
        check.same("items into styled", b.desk.putRow(styled, 2, 0, 1), 11);
        check.same("numbered", b.bytesOf(styled), "1. s\n  1. tab\tc");
        check.same("style 0", b.stylesOf(styled), "000000000001110");
        check.same("one empty cell", b.desk.copyBox(table, 5, 5, 5, 5, false), 3);
        check.same("no places come", b.desk.putRow(plain, 3, 0, 0), 0);
    }

    /** A paper with places of STYLES 5:50, 6:60, 7:0, 0:0, each as often as its order tells. */
    private static int styledSource(Bench b) {
        int styled = b.desk.paper(1);
        b.desk.style(styled, 5, 50);
        b.desk.style(styled, 6, 60);
        b.desk.style(styled, 7, 0);
        b.type(styled, 0, 1, "a");
        b.type(styled, 1, 2, "bb");
        b.type(styled, 3, 3, "ccc");
        b.type(styled, 6, 0, "dddd");
        return styled;
    }

    private static void putRowByName() {
        Bench b = new Bench();
        int from = styledSource(b);
        int to = b.desk.paper(1);
        b.desk.style(to, 6, 50);
        b.desk.style(to, 7, 0);
        b.desk.copyRow(from, 0, 10, false);
        check.same("by name", b.desk.putRow(to, 0, 0, 0), 10);
        check.same("met", b.stylesOf(to), "3112220000");
        check.same("a new one", b.sheetOf(to), "0:0 6:50 7:0 5:50 ");
        check.same("looks lost", b.losses(), "0 2 0 0 0 0 0 0");
        int full = b.desk.paper(1);
        for (int name = 11; name < 18; name++) {
            b.desk.style(full, name, 60);
        }
        check.same("no room for styles", b.desk.putRow(full, 0, 0, 0), 10);
        check.same("style 0", b.stylesOf(full), "0000000000");
        check.same("styles lost", b.losses(), "6 0 0 0 0 0 0 0");
    }

    private static void putRowByLook() {
        Bench b = new Bench();
        int from = styledSource(b);
        int to = b.desk.paper(1);
        b.desk.style(to, 5, 1);
        b.desk.style(to, 8, 60);
        b.desk.style(to, 6, 60);
        b.desk.copyRow(from, 0, 10, false);
        check.same("by look", b.desk.putRow(to, 0, 0, 1), 10);
        check.same("the first of that look, 0 too", b.stylesOf(to), "0220000000");
        check.same("5 can't come, 6 and 7 get other names", b.losses(), "1 0 5 0 0 0 0 0");
        int fresh = b.desk.paper(1);
        b.desk.putRow(fresh, 0, 0, 1);
        check.same("new ones", b.sheetOf(fresh), "0:0 5:50 6:60 ");
        check.same("met", b.stylesOf(fresh), "1220000000");
        check.same("7 has the look of 0", b.losses(), "0 0 3 0 0 0 0 0");
    }

    private static void putRowStyleOnce() {
        Bench b = new Bench();
        int from = b.desk.paper(1);
        b.desk.style(from, 5, 50);
        b.desk.style(from, 6, 50);
        b.type(from, 0, 1, "a");
        b.type(from, 1, 2, "b");
        b.type(from, 2, 1, "c");
        int to = b.desk.paper(1);
        b.desk.style(to, 5, 1);
        b.desk.copyRow(from, 0, 3, false);
        b.desk.putRow(to, 0, 0, 1);
        check.same("5 was met ahead of the new 6", b.stylesOf(to), "020");
        check.same("losses", b.losses(), "2 0 0 0 0 0 0 0");
        int fresh = b.desk.paper(1);
        b.desk.putRow(fresh, 0, 0, 1);
        check.same("6 meets the new 5", b.stylesOf(fresh), "111");
        check.same("by look", b.losses(), "0 0 1 0 0 0 0 0");
        int other = b.desk.paper(1);
        b.desk.style(other, 5, 60);
        b.type(other, 0, 1, "d");
        b.desk.copyRow(other, 0, 1, false);
        b.desk.join(0, 1);
        int last = b.desk.paper(1);
        b.desk.putRow(last, 2, 0, 0);
        check.same("two looks of one name", b.stylesOf(last), "1211");
        check.same("by name", b.losses(), "0 1 0 0 0 0 0 0");
    }

    private static void putRowFull() {
        Bench b = new Bench();
        int from = styledSource(b);
        int plain = b.row(0, times("x", 997));
        int styled = b.row(1, times("y", 998));
        b.desk.copyRow(from, 0, 10, false);
        check.same("3 come", b.desk.putRow(plain, 0, 0, 0), 3);
        check.same("the end is left off", b.bytesOf(plain, 0, 6), "abbxxx");
        check.same("what was there stays", b.bytesOf(plain, 995, 1000), "xxxxx");
        check.same("styles of what came", b.losses(), "3 0 0 7 0 0 0 0");
        check.same("none come", b.desk.putRow(plain, 0, 500, 0), 0);
        check.same("all lost", b.losses(), "0 0 0 10 0 0 0 0");
        check.same("2 come", b.desk.putRow(styled, 0, 998, 0), 2);
        check.same("styles of places that come alone", b.sheetOf(styled), "0:0 5:50 6:60 ");
        check.same("full", b.desk.about(styled, 1), 1000);
        check.same("losses", b.losses(), "0 0 0 8 0 0 0 0");
    }

    private static void putRowWrong() {
        Bench b = new Bench();
        int styled = b.row(1, "ab");
        int list = b.desk.paper(3);
        b.desk.copyRow(styled, 0, 2, false);
        int acts = b.desk.count(3);
        check.same("another make", b.desk.putRow(list, 0, 0, 0), -1);
        check.same("no such place", b.desk.putRow(styled, 0, 3, 0), -1);
        check.same("place below 0", b.desk.putRow(styled, 0, -1, 0), -1);
        check.same("way 2", b.desk.putRow(styled, 0, 0, 2), -1);
        check.same("way -1", b.desk.putRow(styled, 0, 0, -1), -1);
        check.noSuch("no paper", () -> b.desk.putRow(2, 0, 0, 0));
        check.noSuch("no piece", () -> b.desk.putRow(styled, 1, 0, 0));
        check.noSuch("no piece, another make", () -> b.desk.putRow(list, 1, 0, 0));
        check.same("nothing changed", b.bytesOf(styled), "ab");
        check.same("no acts", b.desk.count(3), acts);
    }

    private static void putBox() {
        Bench b = new Bench();
        int from = b.table(new String[] {"a", "b"}, new String[] {"", "d"});
        int to = b.desk.paper(2);
        b.cell(to, 2, 1, "old");
        b.cell(to, 1, 3, "kept");
        b.desk.hide(to, 1, true);
        b.desk.copyBox(from, 0, 0, 1, 1, false);
        check.same("box", b.desk.putBox(to, 0, 1, 1), 4);
        check.same("cell by cell", b.cellsOf(to), "||||||/|a|b|kept|||/||d||||/||||||/||||||/||||||/");
        check.same("no losses", b.losses(), "0 0 0 0 0 0 0 0");
        check.isTrue("still hidden", b.desk.hide(to, 1, true));
        int plain = b.row(0, "p\t\tq\n\nr");
        b.desk.copyRow(plain, 0, 7, false);
        check.same("row", b.desk.putBox(to, 1, 3, 0), 5);
        check.same("parted", b.cellsOf(to), "||||||/|a|b|kept|||/||d||||/p||q||||/||||||/r||||||/");
        int list = b.list("0one", "1two");
        b.desk.copyItems(list, 0, 2, false);
        check.same("items", b.desk.putBox(to, 2, 0, 5), 2);
        check.same("first", b.cellText(to, 0, 5), "1. one");
        check.same("second", b.cellText(to, 1, 5), "  1. two");
        int acts = b.desk.count(3);
        check.same("another make", b.desk.putBox(list, 0, 0, 0), -1);
        check.same("row 6", b.desk.putBox(to, 0, 6, 0), -1);
        check.same("column 6", b.desk.putBox(to, 0, 0, 6), -1);
        check.same("row -1", b.desk.putBox(to, 0, -1, 0), -1);
        check.same("column -1", b.desk.putBox(to, 0, 0, -1), -1);
        check.noSuch("no paper", () -> b.desk.putBox(4, 0, 0, 0));
        check.noSuch("no piece", () -> b.desk.putBox(to, 9, 0, 0));
        check.same("no acts", b.desk.count(3), acts);
    }

    private static void putBoxLosses() {
        Bench b = new Bench();
        int styled = b.desk.paper(1);
        b.desk.style(styled, 9, 90);
        b.type(styled, 0, 1, times("x", 23) + "\ty\t\tz\n" + times("w", 30) + "\n");
        b.desk.copyRow(styled, 0, b.desk.about(styled, 1), false);
        int to = b.desk.paper(2);
        check.same("last row, last but one column", b.desk.putBox(to, 0, 5, 4), 2);
        check.same("cut at 20", b.cellText(to, 5, 4), times("x", 20));
        check.same("beside it", b.cellText(to, 5, 5), "y");
        // z and the 30 have no CELL; the empty ones beyond aren't counted; all 60 places have a STYLE.
        check.same("losses", b.losses(), b.desk.about(styled, 1) + " 0 0 3 2 0 0 0");
        int table = b.desk.paper(2);
        b.desk.hide(table, 0, true);
        b.desk.copyBox(table, 0, 0, 3, 5, false);
        check.same("empty cells come", b.desk.putBox(to, 1, 5, 4), 2);
        check.same("an empty one takes the place", b.cellText(to, 5, 4), "");
        check.same("hidden alone", b.losses(), "0 0 0 0 0 0 0 1");
    }

    private static void putItemsLevels() {
        Bench b = new Bench();
        int from = b.list("2a", "5b", "0c", "3d");
        int to = b.list("0x", "0y");
        b.desk.copyItems(from, 0, 4, false);
        check.same("put", b.desk.putItems(to, 0, 1, 1), 4);
        check.same("one less each", b.itemsOf(to), "0,1,x;1,1,a;4,1,b;0,2,c;2,1,d;0,3,y;");
        check.same("-1 is 0", b.losses(), "0 0 0 0 0 1 0 0");
        b.desk.undo();
        check.same("at the end", b.desk.putItems(to, 0, 2, 5), 4);
        check.same("three more each", b.itemsOf(to), "0,1,x;0,2,y;5,1,a;5,2,b;3,1,c;5,1,d;");
        check.same("8 and 6 are 5", b.losses(), "0 0 0 0 0 2 0 0");
        int acts = b.desk.count(3);
        int plain = b.desk.paper(0);
        check.same("another make", b.desk.putItems(plain, 0, 0, 0), -1);
        check.same("no such i", b.desk.putItems(to, 0, 7, 0), -1);
        check.same("i below 0", b.desk.putItems(to, 0, -1, 0), -1);
        check.same("level 6", b.desk.putItems(to, 0, 0, 6), -1);
        check.same("level -1", b.desk.putItems(to, 0, 0, -1), -1);
        check.noSuch("no paper", () -> b.desk.putItems(3, 0, 0, 0));
        check.noSuch("no piece", () -> b.desk.putItems(to, 1, 0, 0));
        check.same("no acts", b.desk.count(3), acts);
        check.same("losses stay", b.losses(), "0 0 0 0 0 2 0 0");
    }

    private static void putItemsParts() {
        Bench b = new Bench();
        int styled = b.desk.paper(1);
        b.desk.style(styled, 9, 90);
        b.type(styled, 0, 1, "a\tb\n\n");
        b.type(styled, 5, 0, times("c", 43) + "\n");
        b.desk.copyRow(styled, 0, 49, false);
        int list = b.list("0x");
        check.same("parted by breaks", b.desk.putItems(list, 0, 0, 2), 4);
        check.same("items", b.itemsOf(list), "2,1,a b;2,2,;2,3," + times("c", 40) + ";2,4,;0,1,x;");
        check.same("losses", b.losses(), "5 0 0 3 0 0 0 0");
        check.same("the piece keeps its tabs", b.form(0).substring(0, 3), "a\tb");
        int table = b.table(new String[] {"p", "q"}, new String[] {"", "r"});
        b.desk.copyBox(table, 0, 0, 1, 1, false);
        check.same("box", b.desk.putItems(list, 1, 5, 0), 2);
        check.same("with blanks", b.itemsOf(list).substring(b.itemsOf(list).indexOf('x')), "x;0,2,p q;0,3, r;");
        b.desk.copyBox(table, 4, 4, 4, 4, false);
        check.same("one empty cell is one item", b.desk.putItems(list, 2, 0, 0), 1);
    }

    private static void putItemsFull() {
        Bench b = new Bench();
        int list = b.desk.paper(3);
        for (int i = 0; i < 28; i++) {
            b.desk.item(list, i, 0, 0);
        }
        int from = b.list("1a", "0b", "0c", "5d");
        b.desk.copyItems(from, 0, 4, false);
        check.same("2 come", b.desk.putItems(list, 0, 28, 0), 2);
        check.same("nothing else of the others", b.losses(), "0 0 0 0 0 1 2 0");
        check.same("none come", b.desk.putItems(list, 0, 0, 0), 0);
        check.same("all lost", b.losses(), "0 0 0 0 0 0 4 0");
        int styled = b.desk.paper(1);
        b.desk.style(styled, 4, 40);
        b.type(styled, 0, 1, "x\n" + times("y", 50));
        b.desk.copyRow(styled, 0, 52, false);
        b.desk.copyItems(list, 0, 1, true);
        check.same("1 comes", b.desk.putItems(list, 1, 29, 0), 1);
        check.same("styles of what comes or not", b.losses(), "52 0 0 0 0 0 1 0");
    }

    private static void lost() {
        Bench b = new Bench();
        int plain = b.row(0, "ab");
        int list = b.list("1a", "0b");
        int full = b.row(0, times("x", 1000));
        b.desk.copyItems(list, 0, 2, false);
        b.desk.copyRow(plain, 0, 2, false);
        b.desk.putItems(list, 0, 0, 0);
        check.same("levels", b.losses(), "0 0 0 0 0 1 0 0");
        b.desk.undo();
        check.same("undo leaves them", b.losses(), "0 0 0 0 0 1 0 0");
        b.desk.putRow(full, 1, 0, 0);
        check.same("of the latest put alone", b.losses(), "0 0 0 2 0 0 0 0");
        check.noSuch("kind 8", () -> b.desk.lost(8));
        check.noSuch("kind -1", () -> b.desk.lost(-1));
    }

    private static void undo() {
        Bench b = new Bench();
        int plain = b.desk.paper(0);
        for (int k = 0; k < 23; k++) {
            b.type(plain, k, 0, "" + (char) ('a' + k));
        }
        check.same("20 are kept", b.desk.count(3), 20);
        for (int k = 0; k < 20; k++) {
            check.isTrue("undo", b.desk.undo());
            check.same("one less", b.desk.about(plain, 1), 22 - k);
        }
        check.isFalse("nothing is kept", b.desk.undo());
        check.same("the latest were taken back", b.bytesOf(plain), "abc");
        b.type(plain, 3, 0, "z");
        check.same("typing goes on", b.bytesOf(plain), "abcz");
        check.isTrue("undo again", b.desk.undo());
        check.same("as ahead of it", b.bytesOf(plain), "abc");
        int later = b.desk.paper(2);
        check.same("a paper that came since stays", later, 1);
        b.feed("x");
        b.desk.undo();
        check.same("the tape stays", b.desk.count(4), 20);
        check.same("papers", b.desk.count(0), 2);
    }

    private static void undoOfEachAct() {
        Bench b = new Bench();
        int styled = b.desk.paper(1);
        int table = b.desk.paper(2);
        int list = b.desk.paper(3);
        String before = everything(b);
        b.desk.style(styled, 1, 10);
        String styledOnce = everything(b);
        b.type(styled, 0, 1, "a\tb");
        String typed = everything(b);
        b.cell(table, 0, 0, "cell");
        String celled = everything(b);
        b.item(list, 0, 3, "item");
        String listed = everything(b);
        b.desk.hide(table, 0, true);
        b.desk.hide(table, 0, false);
        b.desk.copyRow(styled, 0, 2, true);
        b.desk.copyBox(table, 0, 0, 0, 0, true);
        b.desk.copyItems(list, 0, 1, true);
        check.same("all cut", everything(b), everythingEmpty());
        b.desk.putRow(styled, 2, 0, 0);
        b.desk.putBox(table, 0, 1, 1);
        b.desk.putItems(list, 1, 0, 0);
        check.same("acts", b.desk.count(3), 12);
        for (int k = 0; k < 6; k++) {
            b.desk.undo();
        }
        check.same("puts and cuts back", everything(b), listed);
        check.same("the pieces stay", b.desk.count(1), 3);
        check.isFalse("shown since", b.desk.undo() && b.desk.copyBox(table, 0, 0, 0, 0, false) != -1);
        check.isTrue("not hidden ahead of it", b.desk.undo() && b.desk.copyBox(table, 0, 0, 0, 0, false) != -1);
        b.desk.undo();
        check.same("item back", everything(b), celled);
        b.desk.undo();
        check.same("cell back", everything(b), typed);
        b.desk.undo();
        check.same("typing back", everything(b), styledOnce);
        b.desk.undo();
        check.same("style back", everything(b), before);
        check.isFalse("no more", b.desk.undo());
    }

    private static String everything(Bench b) {
        return b.bytesOf(0) + b.stylesOf(0) + b.sheetOf(0) + b.cellsOf(1, 2, 2) + b.itemsOf(2);
    }

    private static String everythingEmpty() {
        return "b10:0 1:10 " + times("||/", 2);
    }

    private static void about() {
        Bench b = new Bench();
        b.row(0, "abc");
        b.row(1, "de");
        b.desk.paper(2);
        b.list("0x");
        int[][] due = {{0, 3, -1}, {1, 2, 1}, {2, 36, -1}, {3, 1, -1}};
        for (int p = 0; p < 4; p++) {
            for (int what = 0; what < 3; what++) {
                check.same("about " + p + " " + what, b.desk.about(p, what), due[p][what]);
            }
        }
        check.noSuch("what 3", () -> b.desk.about(0, 3));
        check.noSuch("what -1", () -> b.desk.about(0, -1));
        check.noSuch("paper 4", () -> b.desk.about(4, 0));
        check.noSuch("paper -1", () -> b.desk.about(-1, 0));
    }

    private static void at() {
        Bench b = new Bench();
        int plain = b.row(0, "a\n");
        int table = b.desk.paper(2);
        check.same("byte", b.desk.at(plain, 1, 0), 10);
        check.same("style of plain", b.desk.at(plain, 1, 1), 0);
        check.noSuch("what 2", () -> b.desk.at(plain, 0, 2));
        check.noSuch("what -1", () -> b.desk.at(plain, 0, -1));
        check.noSuch("place 2", () -> b.desk.at(plain, 2, 0));
        check.noSuch("place -1", () -> b.desk.at(plain, -1, 0));
        check.noSuch("another make", () -> b.desk.at(table, 0, 0));
        check.noSuch("no paper", () -> b.desk.at(2, 0, 0));
    }

    private static void styleOf() {
        Bench b = new Bench();
        int styled = b.desk.paper(1);
        int plain = b.desk.paper(0);
        b.desk.style(styled, 12, 345);
        check.same("name", b.desk.styleOf(styled, 1, 0), 12);
        check.same("look", b.desk.styleOf(styled, 1, 1), 345);
        check.same("name of 0", b.desk.styleOf(styled, 0, 0), 0);
        check.same("look of 0", b.desk.styleOf(styled, 0, 1), 0);
        check.noSuch("what 2", () -> b.desk.styleOf(styled, 0, 2));
        check.noSuch("what -1", () -> b.desk.styleOf(styled, 0, -1));
        check.noSuch("style 2", () -> b.desk.styleOf(styled, 2, 0));
        check.noSuch("style -1", () -> b.desk.styleOf(styled, -1, 0));
        check.noSuch("another make", () -> b.desk.styleOf(plain, 0, 0));
        check.noSuch("no paper", () -> b.desk.styleOf(2, 0, 0));
    }

    private static void itemOf() {
        Bench b = new Bench();
        int list = b.list("1a", "0bb", "1c", "3d", "2e", "3f", "1g", "0h");
        int plain = b.row(0, "x");
        int[] numbers = {1, 1, 1, 1, 1, 1, 2, 2};
        for (int i = 0; i < numbers.length; i++) {
            check.same("number of " + i, b.desk.itemOf(list, i, 1), numbers[i]);
        }
        check.same("level", b.desk.itemOf(list, 3, 0), 3);
        check.same("bytes", b.desk.itemOf(list, 1, 2), 2);
        check.noSuch("what 3", () -> b.desk.itemOf(list, 0, 3));
        check.noSuch("what -1", () -> b.desk.itemOf(list, 0, -1));
        check.noSuch("item 8", () -> b.desk.itemOf(list, 8, 0));
        check.noSuch("item -1", () -> b.desk.itemOf(list, -1, 0));
        check.noSuch("another make", () -> b.desk.itemOf(plain, 0, 0));
        check.noSuch("no paper", () -> b.desk.itemOf(2, 0, 0));
    }

    /** cellOf, textOf and plain. */
    private static void outTexts() {
        Bench b = new Bench();
        int table = b.table(new String[] {"", "cell"});
        int list = b.list("0item");
        check.same("cellOf", b.desk.cellOf(table, 0, 1), 4);
        check.same("out", b.out(), "cell");
        check.same("textOf", b.desk.textOf(list, 0), 4);
        check.same("out", b.out(), "item");
        b.desk.copyItems(list, 0, 1, false);
        check.same("plain", b.desk.plain(0), 7);
        check.same("out", b.out(), "1. item");
        check.noSuch("cell row 6", () -> b.desk.cellOf(table, 6, 0));
        check.noSuch("cell column 6", () -> b.desk.cellOf(table, 0, 6));
        check.noSuch("cell row -1", () -> b.desk.cellOf(table, -1, 0));
        check.noSuch("cell column -1", () -> b.desk.cellOf(table, 0, -1));
        check.noSuch("cell of another make", () -> b.desk.cellOf(list, 0, 0));
        check.noSuch("cell of no paper", () -> b.desk.cellOf(2, 0, 0));
        check.noSuch("item 1", () -> b.desk.textOf(list, 1));
        check.noSuch("item -1", () -> b.desk.textOf(list, -1));
        check.noSuch("item of another make", () -> b.desk.textOf(table, 0));
        check.noSuch("item of no paper", () -> b.desk.textOf(2, 0));
        check.noSuch("no piece", () -> b.desk.plain(1));
        check.same("out stays", b.out(), "1. item");
        check.same("an empty cell", b.desk.cellOf(table, 0, 0), 0);
        check.same("out is empty", b.desk.count(5), 0);
    }

    private static void told() {
        Bench b = new Bench();
        int table = b.table(new String[] {"ab"});
        check.noSuch("nothing told yet", () -> b.desk.told(0));
        b.desk.cellOf(table, 0, 0);
        check.same("byte 0", b.desk.told(0), 'a');
        check.same("byte 1", b.desk.told(1), 'b');
        check.noSuch("byte 2", () -> b.desk.told(2));
        check.noSuch("byte -1", () -> b.desk.told(-1));
    }

    private static void count() {
        Bench b = new Bench();
        int plain = b.row(0, "abc");
        b.desk.copyRow(plain, 0, 1, true);
        b.desk.copyRow(plain, 0, 1, false);
        b.desk.pin(1, true);
        b.desk.plain(1);
        b.feed("x");
        int[] due = {1, 2, 1, 2, 20, 1};
        for (int what = 0; what < 6; what++) {
            check.same("count " + what, b.desk.count(what), due[what]);
        }
        check.noSuch("what 6", () -> b.desk.count(6));
        check.noSuch("what -1", () -> b.desk.count(-1));
    }
}
