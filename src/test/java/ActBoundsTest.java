/** The bounds that part 4 (ACTS) and promise 19 name, each sentence by itself. */
public final class ActBoundsTest {
    private static final Check check = new Check();
    private static final Twins twins = new Twins(check);

    public static void main(String[] args) {
        nothingIsKept();
        twentyAreKept();
        twentyOfPapersByTurns();
        twentyBehindTwenty();
        hiddenRowsComeBack();
        keptAgainBehindAnUndo();
        undoIsNoAct();
        everyActIsUndoneAsOne();
        actsOfNoChange();
        whatIsNoAct();
        refusedIsNoAct();
        theLatestGoesFirst();
        theShelfStays();
        tapeAndOutStay();
        undoOfACutAtAFullShelf();
        check.end();
    }

    /** "False: nothing is kept." */
    private static void nothingIsKept() {
        Desk desk = new Desk();
        check.isFalse("of a new object", desk.undo());
        desk.paper(0);
        check.isFalse("a paper is no act", desk.undo());
        check.same("it stays", desk.count(0), 1);
        desk.type(0, 0, 0, 0);
        check.isTrue("one act", desk.undo());
        check.isFalse("no more", desk.undo());
        check.isFalse("still no more", desk.undo());
        check.same("none are kept", desk.count(3), 0);
        twins.unchanged("nothing to undo", b -> {
            Twins.FED.on(b);
            for (int k = 0; k < 14; k++) {
                check.isTrue("an act", b.desk.undo());
            }
        }, d -> d.undo() ? 1 : 0, "0");
    }

    /** "(at most 20 are kept, the latest ones)" */
    private static void twentyAreKept() {
        for (int acts : new int[] {0, 1, 19, 20, 21, 22, 39, 40, 41, 60}) {
            Bench b = new Bench();
            int plain = b.desk.paper(0);
            for (int k = 0; k < acts; k++) {
                b.type(plain, k, 0, "" + (char) ('0' + k));
                check.same("kept", b.desk.count(3), Math.min(k + 1, 20));
            }
            int kept = Math.min(acts, 20);
            for (int k = 1; k <= kept; k++) {
                check.isTrue("undo " + k + " of " + acts, b.desk.undo());
                check.same("places", b.desk.about(plain, 1), acts - k);
                check.same("kept yet", b.desk.count(3), kept - k);
            }
            check.isFalse("no more of " + acts, b.desk.undo());
            check.same("the elder ones stay", b.desk.about(plain, 1), acts - kept);
            if (acts > kept) {
                check.same("the last of them", b.desk.at(plain, acts - kept - 1, 0), '0' + acts - kept - 1);
            }
        }
    }

    /** The same, of ACTS on papers of all makes. */
    private static void twentyOfPapersByTurns() {
        Bench b = new Bench();
        for (int make = 0; make < 4; make++) {
            b.desk.paper(make);
        }
        for (int k = 0; k < 30; k++) {
            typeOne(b, k % 4, 'A' + k);
        }
        check.same("plain", b.bytesOf(0), "]YUQMIEA");
        for (int k = 29; k >= 10; k--) {
            check.isTrue("undo", b.desk.undo());
            check.same("plain at " + k, b.desk.about(0, 1), (k + 3) / 4);
            check.same("styled at " + k, b.desk.about(1, 1), (k + 2) / 4);
            check.same("list at " + k, b.desk.about(3, 1), k / 4);
            int last = (k - 3) / 4 * 4 + 2;
            check.same("cell at " + k, b.cellText(2, 0, 0), "" + (char) ('A' + last));
        }
        check.isFalse("no more", b.desk.undo());
        check.same("plain", b.bytesOf(0), "IEA");
        check.same("styled", b.bytesOf(1), "JFB");
        check.same("list", b.itemsOf(3), "0,1,H;0,2,D;");
    }

    /** The same, when 20 of another paper were kept ahead of them. */
    private static void twentyBehindTwenty() {
        for (int elder = 0; elder < 4; elder++) {
            for (int later = 0; later < 4; later++) {
                Bench b = new Bench();
                for (int make = 0; make < 4; make++) {
                    b.desk.paper(make);
                }
                for (int k = 0; k < 20; k++) {
                    typeOne(b, elder, 'A' + k);
                }
                b.desk.style(1, 7, 70);
                typeOne(b, later, '-');
                String before = papersOf(b);
                for (int k = 0; k < 8; k++) {
                    typeOne(b, later, 'a' + k);
                }
                for (int k = 0; k < 8; k++) {
                    check.isTrue("undo", b.desk.undo());
                }
                check.same("make " + elder + " and " + later, papersOf(b), before);
                for (int make = 0; make < 4; make++) {
                    check.same("make", b.desk.about(make, 0), make);
                }
            }
        }
    }

    private static void typeOne(Bench b, int make, int sign) {
        String text = "" + (char) sign;
        switch (make) {
            case 2 -> b.cell(2, 0, 0, text);
            case 3 -> b.item(3, 0, 0, text);
            default -> b.type(make, 0, 0, text);
        }
    }

    /** "all PAPERS are as ahead of it": HIDDEN ROWS, too. */
    private static void hiddenRowsComeBack() {
        for (int row = 0; row < 6; row++) {
            Bench b = new Bench();
            int table = b.desk.paper(2);
            b.desk.hide(table, row, true);
            b.cell(table, row, 0, "x");
            b.desk.hide(table, row, false);
            b.desk.undo();
            check.same("hidden again", b.desk.copyBox(table, row, 0, row, 0, false), -1);
            b.desk.undo();
            check.same("still hidden", b.desk.copyBox(table, row, 0, row, 0, false), -1);
            check.same("the cell is empty", b.desk.cellOf(table, row, 0), 0);
            b.desk.undo();
            check.same("not hidden", b.desk.copyBox(table, row, 0, row, 0, false), 0);
        }
    }

    /** What is undone makes room for the next. */
    private static void keptAgainBehindAnUndo() {
        Bench b = new Bench();
        int plain = b.desk.paper(0);
        for (int round = 0; round < 4; round++) {
            for (int k = 0; k < 12; k++) {
                b.type(plain, 0, 0, "x");
            }
            for (int k = 0; k < 5; k++) {
                check.isTrue("undo", b.desk.undo());
            }
        }
        check.same("places", b.desk.about(plain, 1), 28);
        check.same("kept", b.desk.count(3), 15);
        for (int k = 0; k < 15; k++) {
            check.isTrue("undo", b.desk.undo());
        }
        check.isFalse("no more", b.desk.undo());
        check.same("places that stay", b.desk.about(plain, 1), 13);
    }

    /** "UNDO takes back the latest of these": it is none of them. */
    private static void undoIsNoAct() {
        Bench b = new Bench();
        int plain = b.row(0, "a");
        b.type(plain, 1, 0, "b");
        b.desk.undo();
        check.same("one is kept", b.desk.count(3), 1);
        b.desk.undo();
        check.same("the one ahead of it goes, too", b.desk.about(plain, 1), 0);
    }

    /** One more ACT on a furnished desk. */
    private interface Act {
        long on(Desk desk);
    }

    private static void undone(String what, String due, Act act) {
        Twins.Story acted = b -> {
            Twins.FED.on(b);
            check.same(what, act.on(b.desk), Long.parseLong(due));
            check.same(what + " is one act", b.desk.count(3), 15);
        };
        Bench b = new Bench();
        acted.on(b);
        check.isTrue(what + " is undone", b.desk.undo());
        check.same(what + ": kept", b.desk.count(3), 14);
        Bench twin = new Bench();
        Twins.FED.on(twin);
        check.same(what + ": papers", papersOf(b), papersOf(twin));
    }

    private static String papersOf(Bench b) {
        StringBuilder hidden = new StringBuilder();
        String text = b.bytesOf(0) + b.bytesOf(1) + b.stylesOf(1) + b.sheetOf(1) + b.cellsOf(2) + b.itemsOf(3);
        for (int row = 0; row < 6; row++) {
            hidden.append(b.desk.hide(2, row, false));
        }
        return text + hidden;
    }

    /** "ACTS: TYPING, a STYLE, HIDING, CUT .., PUT"; "all PAPERS are as ahead of it" */
    private static void everyActIsUndoneAsOne() {
        undone("type into PLAIN", "27", d -> d.type(0, 3, 0, 20));
        undone("type into STYLED", "8", d -> d.type(1, 1, 2, 5));
        undone("cell", "1", d -> d.cell(2, 0, 0, 20) ? 1 : 0);
        undone("item", "4", d -> d.item(3, 1, 0, 20));
        undone("style", "3", d -> d.style(1, 7, 70));
        undone("hide", "0", d -> d.hide(2, 0, true) ? 1 : 0);
        undone("show", "1", d -> d.hide(2, 2, false) ? 1 : 0);
        undone("cut of PLAIN", "3", d -> d.copyRow(0, 1, 6, true));
        undone("cut of all of STYLED", "3", d -> d.copyRow(1, 0, 3, true));
        undone("cut of CELLS", "3", d -> d.copyBox(2, 0, 0, 5, 5, true));
        undone("cut of ITEMS", "3", d -> d.copyItems(3, 0, 3, true));
        undone("put into PLAIN", "3", d -> d.putRow(0, 0, 7, 0));
        undone("put into STYLED", "15", d -> d.putRow(1, 2, 2, 1));
        undone("put into a TABLE", "4", d -> d.putBox(2, 1, 1, 0));
        undone("put of a row into a TABLE", "1", d -> d.putBox(2, 0, 5, 5));
        undone("put into a LIST", "2", d -> d.putItems(3, 2, 1, 5));
    }

    /** They are ACTS though nothing is another then: "an ACT if there is such a ROW" and their like. */
    private static void actsOfNoChange() {
        undone("type of no bytes", "7", d -> d.type(0, 0, 0, 0));
        undone("hidden already", "1", d -> d.hide(2, 2, true) ? 1 : 0);
        undone("not hidden anyway", "0", d -> d.hide(2, 0, false) ? 1 : 0);
        undone("cut of empty CELLS", "3", d -> d.copyBox(2, 3, 3, 4, 4, true));
    }

    /** COPIES, JOINS, pins, papers and the tape are none of them. */
    private static void whatIsNoAct() {
        Bench b = new Bench();
        Twins.FURNISHED.on(b);
        b.feed("x");
        b.desk.paper(0);
        b.desk.copyRow(0, 0, 1, false);
        b.desk.copyBox(2, 0, 0, 1, 1, false);
        b.desk.copyItems(3, 0, 1, false);
        b.desk.join(0, 2);
        b.desk.pin(0, true);
        b.desk.pin(0, false);
        b.desk.plain(1);
        b.desk.cellOf(2, 0, 0);
        b.desk.textOf(3, 0);
        check.same("acts", b.desk.count(3), 14);
        check.isTrue("undo", b.desk.undo());
        check.same("the put that was the latest", b.bytesOf(0), "ab\tc");
        check.same("the paper stays", b.desk.count(0), 5);
    }

    /** A refused call is no ACT, also when 20 are kept. */
    private static void refusedIsNoAct() {
        Twins.Story full = b -> {
            Twins.FED.on(b);
            for (int k = 0; k < 8; k++) {
                b.desk.hide(2, 5, k % 2 == 0);
            }
            check.same("20 are kept", b.desk.count(3), 20);
        };
        twins.none("style", full, d -> d.style(1, 5, 1));
        twins.unchanged("hide", full, d -> d.hide(2, 6, true) ? 1 : 0, "0");
        twins.none("cut", full, d -> d.copyRow(0, 0, 8, true));
        twins.none("cut of cells", full, d -> d.copyBox(2, 2, 0, 2, 0, true));
        twins.none("cut of items", full, d -> d.copyItems(3, 0, 4, true));
        twins.none("put", full, d -> d.putRow(1, 0, 0, 2));
        twins.none("put into a table", full, d -> d.putBox(2, 0, 0, 6));
        twins.none("put into a list", full, d -> d.putItems(3, 0, 0, 6));
        twins.unchanged("type", full, d -> d.type(0, 0, 0, 21), Check.BAD_ARGUMENT);
    }

    /** "UNDO takes back the latest" */
    private static void theLatestGoesFirst() {
        Bench b = new Bench();
        int one = b.row(0, "a");
        int two = b.row(0, "b");
        b.type(one, 1, 0, "c");
        b.type(two, 1, 0, "d");
        b.type(one, 2, 0, "e");
        String[] due = {"ac,bd", "ac,b", "a,b", "a,", ","};
        for (String papers : due) {
            check.isTrue("undo", b.desk.undo());
            check.same("papers", b.bytesOf(one) + "," + b.bytesOf(two), papers);
        }
        check.isFalse("no more", b.desk.undo());
    }

    /** "CUT (the paper's part alone: the PIECE stays)"; "THE SHELF stays as it is" */
    private static void theShelfStays() {
        Bench b = new Bench();
        int plain = b.row(0, "abc");
        int table = b.table(new String[] {"p"});
        int list = b.list("0i");
        b.desk.copyRow(plain, 0, 2, true);
        b.desk.copyBox(table, 0, 0, 0, 0, true);
        b.desk.copyItems(list, 0, 1, true);
        b.desk.join(0, 0);
        b.desk.pin(2, true);
        for (int k = 0; k < 6; k++) {
            check.isTrue("undo", b.desk.undo());
        }
        check.same("pieces", b.desk.count(1), 4);
        check.same("pinned", b.desk.count(2), 1);
        check.same("forms", b.form(0) + "," + b.form(1) + "," + b.form(2) + "," + b.form(3), "ab,p,1. i,abab");
        check.same("nothing is left of the papers", b.desk.about(plain, 1) + b.desk.about(list, 1), 0);
        check.same("they can be put yet", b.desk.putRow(plain, 2, 0, 0), 4);
        check.same("the next number", b.desk.copyRow(plain, 0, 1, false), 4);
    }

    /** UNDO is of PAPERS alone. */
    private static void tapeAndOutStay() {
        Bench b = new Bench();
        Twins.FED.on(b);
        b.desk.plain(0);
        check.isTrue("undo", b.desk.undo());
        check.same("out", b.out(), "xyz");
        check.same("losses", b.losses(), "2 0 0 0 0 0 0 0");
        check.same("tape", b.desk.count(4), 20);
        check.same("its bytes", b.desk.type(0, 0, 0, 17), 21);
        check.same("as they were", b.bytesOf(0, 0, 17), "typed on the tape");
    }

    /** The PIECE that went for a CUT doesn't come back with its UNDO. */
    private static void undoOfACutAtAFullShelf() {
        Bench b = new Bench();
        int plain = b.row(0, "abcdefg");
        for (int k = 0; k < 6; k++) {
            b.desk.copyRow(plain, k, k + 1, false);
        }
        check.same("cut", b.desk.copyRow(plain, 6, 7, true), 6);
        check.isTrue("undo", b.desk.undo());
        check.same("the place is back", b.bytesOf(plain), "abcdefg");
        check.noSuch("the eldest isn't", () -> b.desk.piece(0, 0));
        check.same("the piece stays", b.form(6), "g");
        check.same("six", b.desk.count(1), 6);
    }
}
