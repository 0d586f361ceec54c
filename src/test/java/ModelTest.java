import java.util.ArrayList;
import java.util.List;
import java.util.Random;

/**
 * Random runs of a model, asked again of new desks: every answer is the same, and so is all that can be
 * seen in the end. What can be seen takes more calls than one object is promised for, so that each part
 * of it is asked of a new desk that has been through the same run.
 */
public final class ModelTest {
    private static final int RUNS = 1000;
    private static final int LEAST_LEFT = 60;
    // A step makes at most 36 calls: 20 of feed, one more, and what is asked behind it.
    private static final int MOST_OF_STEP = 36;
    private static final int UNDOES = 21;
    private static final int TOLD_AT_ONCE = 40;
    private static final int[] ODD = {-1, 6, 7, 8, 30, 31, 100, 999, 1000, 1001, Integer.MAX_VALUE, Integer.MIN_VALUE};

    interface Ask {
        long of(Desk desk);
    }

    /** A call and the answer that is due. */
    private record Row(String what, Ask ask, String want) {
    }

    private final Check check;
    private final Random random;
    private final Model model = new Model();
    private final List<Row> run = new ArrayList<>();
    private final List<List<Row>> looks = new ArrayList<>();
    private final String name;
    private final boolean longTexts;
    private final long[] met;
    private List<Row> rows = run;
    private int newest = -1;

    private ModelTest(Check check, int seed, long[] met) {
        this.check = check;
        this.met = met;
        this.random = new Random(seed);
        this.name = "seed " + seed;
        this.longTexts = seed % 3 == 0;
    }

    public static void main(String[] args) {
        Check check = new Check();
        long[] met = new long[8];
        for (int seed = 0; seed < RUNS && check.wrongTotal() == 0; seed++) {
            new ModelTest(check, seed, met).go();
        }
        for (int kind = 0; kind < met.length; kind++) {
            check.isTrue("runs with losses of kind " + kind, met[kind] > 0);
        }
        check.end();
    }

    private void go() {
        int most = 40 + below(Desk.MOST_CALLS - LEAST_LEFT - UNDOES - MOST_OF_STEP - 40);
        for (int k = 0; k < Desk.MOST_CALLS && run.size() < most; k++) {
            step();
        }
        startLook();
        same("count(5)", desk -> desk.count(5), () -> model.count(5));
        lookAtTold(0, Math.min(model.count(5), TOLD_AT_ONCE));
        lookAtAll();
        askAll();
        rows = run;
        for (int k = 0; k < UNDOES; k++) {
            same("undo()", desk -> desk.undo() ? 1 : 0, () -> model.undo() ? 1 : 0);
        }
        looks.clear();
        lookAtAll();
        askAll();
    }

    /** As many looks of each desk as its calls are enough for. */
    private void askAll() {
        Desk desk = null;
        for (List<Row> look : looks) {
            if (desk == null || desk.calls() + look.size() > Desk.MOST_CALLS) {
                desk = new Desk();
                askRows(desk, run);
            }
            askRows(desk, look);
            if (check.wrongTotal() > 0) {
                return;
            }
        }
    }

    private void askRows(Desk desk, List<Row> asked) {
        for (int k = 0; k < asked.size() && check.wrongTotal() == 0; k++) {
            Row row = asked.get(k);
            check.same(name + ": " + row.what, Check.answerOf(() -> row.ask.of(desk)), row.want);
            if (check.wrongTotal() > 0) {
                tell(asked == run ? k : run.size());
            }
        }
    }

    private void tell(int rowsOfRun) {
        for (int k = 0; k < rowsOfRun; k++) {
            System.out.println(run.get(k).what + " -> " + run.get(k).want);
        }
    }

    private int below(int n) {
        return random.nextInt(n);
    }

    /** Mostly a number that fits, at times an odd one. */
    private int some(int n) {
        return below(25) == 0 ? ODD[below(ODD.length)] : below(Math.max(1, n));
    }

    private int somePaper() {
        return some(model.count(0));
    }

    /** A paper of that make, mostly. */
    private int paperOf(int... makes) {
        int make = makes[below(makes.length)];
        for (int k = 0, p = below(6); k < 6; k++, p = (p + 1) % 6) {
            if (p < model.count(0) && model.about(p, 0) == make && below(20) > 0) {
                return p;
            }
        }
        return somePaper();
    }

    private int somePiece() {
        return below(25) == 0 ? some(newest + 2) : Math.max(0, newest - below(9));
    }

    private int size(int paper) {
        return paper < 0 || paper >= model.count(0) ? 3 : model.about(paper, 1);
    }

    private String same(String what, Ask ofDesk, Check.Call ofModel) {
        String want = Check.answerOf(ofModel);
        rows.add(new Row(what, ofDesk, want));
        return want;
    }

    /** The same, of a call that answers a new PIECE. */
    private void samePiece(String what, Ask ofDesk, Check.Call ofModel) {
        String want = same(what, ofDesk, ofModel);
        if (Character.isDigit(want.charAt(0))) {
            newest = Integer.parseInt(want);
        }
    }

    private int someByte() {
        int pick = below(40);
        if (pick == 0) {
            return below(256);
        }
        return pick < 4 ? 10 : pick < 7 ? 9 : pick < 10 ? 32 : 97 + below(26);
    }

    private void feedSome(boolean characters) {
        int times = longTexts ? 1 + below(20) : 1 + below(3);
        for (int t = 0; t < times; t++) {
            int[] w = new int[5];
            for (int k = 0; k < 20; k++) {
                int b = characters && below(30) > 0 ? 97 + below(26) : someByte();
                w[k / 4] = w[k / 4] << 8 | b;
            }
            same("feed", desk -> desk.feed(w[0], w[1], w[2], w[3], w[4]), () -> model.feed(w));
        }
    }

    private int someLength(int most) {
        int n = below(longTexts ? most + 2 : Math.min(most, 8));
        return below(30) == 0 ? some(400) : Math.min(n, model.count(4));
    }

    private void step() {
        if (model.count(0) < 6 && (model.count(0) < 4 || below(10) == 0)) {
            int make = below(10) == 0 ? some(5) : model.count(0) == 4 ? 1 : (model.count(0) + below(2)) % 4;
            same("paper(" + make + ")", desk -> desk.paper(make), () -> model.paper(make));
        }
        switch (below(17)) {
            case 0, 1 -> typeSome();
            case 2 -> cellSome();
            case 3 -> itemSome();
            case 4 -> styleSome();
            case 5 -> hideSome();
            case 6, 7 -> copyRowSome();
            case 8 -> copyBoxSome();
            case 9 -> copyItemsSome();
            case 10 -> joinSome();
            case 11 -> pinSome();
            case 12, 13, 14 -> putSome();
            case 15 -> tellSome();
            default -> undoSome();
        }
    }

    private void typeSome() {
        feedSome(false);
        int p = paperOf(0, 1, 1);
        int place = some(size(p) + 1);
        int style = some(Math.max(1, p >= 0 && p < model.count(0) ? model.about(p, 2) : 1));
        int n = someLength(400);
        same("type(" + p + ", " + place + ", " + style + ", " + n + ")",
                desk -> desk.type(p, place, style, n), () -> model.type(p, place, style, n));
    }

    private void cellSome() {
        feedSome(true);
        int p = paperOf(2);
        int r = some(6);
        int c = some(6);
        int n = someLength(20);
        same("cell(" + p + ", " + r + ", " + c + ", " + n + ")",
                desk -> desk.cell(p, r, c, n) ? 1 : 0, () -> model.cell(p, r, c, n) ? 1 : 0);
    }

    private void itemSome() {
        feedSome(true);
        int p = paperOf(3);
        int i = some(size(p) + 1);
        int level = some(6);
        int n = someLength(40);
        same("item(" + p + ", " + i + ", " + level + ", " + n + ")",
                desk -> desk.item(p, i, level, n), () -> model.item(p, i, level, n));
    }

    private void styleSome() {
        int p = paperOf(1);
        int nameOfIt = some(6);
        int look = some(4);
        same("style(" + p + ", " + nameOfIt + ", " + look + ")",
                desk -> desk.style(p, nameOfIt, look), () -> model.style(p, nameOfIt, look));
    }

    private void hideSome() {
        int p = paperOf(2);
        int r = some(6);
        boolean is = below(3) == 0;
        same("hide(" + p + ", " + r + ", " + is + ")",
                desk -> desk.hide(p, r, is) ? 1 : 0, () -> model.hide(p, r, is) ? 1 : 0);
    }

    private void copyRowSome() {
        int p = paperOf(0, 1);
        int a = some(size(p) + 1);
        int b = some(size(p) + 1);
        boolean cut = below(3) == 0;
        samePiece("copyRow(" + p + ", " + a + ", " + b + ", " + cut + ")",
                desk -> desk.copyRow(p, a, b, cut), () -> model.copyRow(p, a, b, cut));
    }

    private void copyBoxSome() {
        int p = paperOf(2);
        int r = some(4);
        int c = some(4);
        int toR = r + some(3);
        int toC = c + some(3);
        boolean cut = below(3) == 0;
        samePiece("copyBox(" + p + ", " + r + ", " + c + ", " + toR + ", " + toC + ", " + cut + ")",
                desk -> desk.copyBox(p, r, c, toR, toC, cut), () -> model.copyBox(p, r, c, toR, toC, cut));
    }

    private void copyItemsSome() {
        int p = paperOf(3);
        int a = some(size(p) + 1);
        int b = some(size(p) + 1);
        boolean cut = below(4) == 0;
        samePiece("copyItems(" + p + ", " + a + ", " + b + ", " + cut + ")",
                desk -> desk.copyItems(p, a, b, cut), () -> model.copyItems(p, a, b, cut));
    }

    private void joinSome() {
        int one = somePiece();
        int two = somePiece();
        samePiece("join(" + one + ", " + two + ")", desk -> desk.join(one, two), () -> model.join(one, two));
    }

    private void pinSome() {
        int piece = somePiece();
        boolean is = below(3) > 0;
        same("pin(" + piece + ", " + is + ")",
                desk -> desk.pin(piece, is) ? 1 : 0, () -> model.pin(piece, is) ? 1 : 0);
    }

    private void putSome() {
        int piece = somePiece();
        int p = somePaper();
        int make = p >= 0 && p < model.count(0) && below(15) > 0 ? model.about(p, 0) : below(4);
        if (make < 2) {
            int place = some(size(p) + 1);
            int way = some(2);
            same("putRow(" + p + ", " + piece + ", " + place + ", " + way + ")",
                    desk -> desk.putRow(p, piece, place, way), () -> model.putRow(p, piece, place, way));
        } else if (make == 2) {
            int r = some(6);
            int c = some(6);
            same("putBox(" + p + ", " + piece + ", " + r + ", " + c + ")",
                    desk -> desk.putBox(p, piece, r, c), () -> model.putBox(p, piece, r, c));
        } else {
            int i = some(size(p) + 1);
            int level = some(6);
            same("putItems(" + p + ", " + piece + ", " + i + ", " + level + ")",
                    desk -> desk.putItems(p, piece, i, level), () -> model.putItems(p, piece, i, level));
        }
        compareLosses();
        for (int kind = 0; kind < met.length; kind++) {
            met[kind] += model.lost(kind) > 0 ? 1 : 0;
        }
    }

    private void undoSome() {
        int times = below(8) == 0 ? below(25) : 1;
        for (int k = 0; k < times; k++) {
            same("undo()", desk -> desk.undo() ? 1 : 0, () -> model.undo() ? 1 : 0);
        }
    }

    private void tellSome() {
        int p = paperOf(2, 3);
        int i = some(Math.min(size(p), 6));
        int piece = somePiece();
        switch (below(3)) {
            case 0 -> same("cellOf(" + p + ", " + i + ", 1)", desk -> desk.cellOf(p, i, 1), () -> model.cellOf(p, i, 1));
            case 1 -> same("textOf(" + p + ", " + i + ")", desk -> desk.textOf(p, i), () -> model.textOf(p, i));
            default -> same("plain(" + piece + ")", desk -> desk.plain(piece), () -> model.plain(piece));
        }
    }

    private void compareLosses() {
        for (int kind = 0; kind < 8; kind++) {
            int k = kind;
            same("lost(" + k + ")", desk -> desk.lost(k), () -> model.lost(k));
        }
    }

    /** The rows that follow are asked of one desk, one behind the other. */
    private void startLook() {
        rows = new ArrayList<>();
        looks.add(rows);
    }

    private void lookAtAll() {
        startLook();
        for (int what = -1; what < 5; what++) {
            int w = what;
            same("count(" + w + ")", desk -> desk.count(w), () -> model.count(w));
        }
        same("count(6)", desk -> desk.count(6), () -> model.count(6));
        compareLosses();
        for (int p = 0; p < 7; p++) {
            lookAtPaper(p);
        }
        for (int piece = Math.max(-1, newest - 20); piece <= newest + 1; piece++) {
            lookAtPiece(piece);
        }
    }

    private void lookAtPaper(int p) {
        startLook();
        for (int what = 0; what < 4; what++) {
            int w = what;
            same("about(" + p + ", " + w + ")", desk -> desk.about(p, w), () -> model.about(p, w));
        }
        int make = p < model.count(0) ? model.about(p, 0) : -1;
        int most = make == -1 || make == 2 ? 0 : model.about(p, 1);
        for (int k = 0; k <= most; k++) {
            if (most < 100 || k < 4 || k > most - 4 || below(most) < 100) {
                lookAtPlace(p, k, make);
            }
        }
        for (int k = 0; k < (make == 2 ? 42 : 1); k++) {
            int r = k / 6;
            int c = k % 6;
            lookAtOut("cellOf(" + p + ", " + r + ", " + c + ")",
                    desk -> desk.cellOf(p, r, c), () -> model.cellOf(p, r, c));
        }
    }

    /** What the paper's make hasn't got is asked of its first place alone: exceptions take their time. */
    private void lookAtPlace(int p, int place, int make) {
        startLook();
        for (int what = 0; what < 3; what++) {
            int w = what;
            if (make < 2 || place == 0) {
                same("at(" + p + ", " + place + ", " + w + ")",
                        desk -> desk.at(p, place, w), () -> model.at(p, place, w));
            }
            if (make == 3 || place == 0) {
                same("itemOf(" + p + ", " + place + ", " + w + ")",
                        desk -> desk.itemOf(p, place, w), () -> model.itemOf(p, place, w));
            }
            if (place <= 8) {
                same("styleOf(" + p + ", " + place + ", " + w + ")",
                        desk -> desk.styleOf(p, place, w), () -> model.styleOf(p, place, w));
            }
        }
        if (make == 3 || place == 0) {
            lookAtOut("textOf(" + p + ", " + place + ")",
                    desk -> desk.textOf(p, place), () -> model.textOf(p, place));
        }
    }

    private void lookAtPiece(int piece) {
        startLook();
        for (int what = 0; what < 7; what++) {
            int w = what;
            same("piece(" + piece + ", " + w + ")", desk -> desk.piece(piece, w), () -> model.piece(piece, w));
        }
        lookAtOut("plain(" + piece + ")", desk -> desk.plain(piece), () -> model.plain(piece));
    }

    /** Long texts are asked part by part. */
    private void lookAtOut(String what, Ask ofDesk, Check.Call ofModel) {
        startLook();
        if (same(what, ofDesk, ofModel).equals(Check.NO_SUCH)) {
            return;
        }
        int n = model.count(5);
        for (int k = 0; k <= n; k += TOLD_AT_ONCE) {
            if (k > 0) {
                startLook();
                same(what, ofDesk, ofModel);
            }
            lookAtTold(k, Math.min(k + TOLD_AT_ONCE, n + 1));
        }
    }

    private void lookAtTold(int a, int b) {
        for (int k = a; k < b; k++) {
            int byteOf = k;
            same("told(" + k + ")", desk -> desk.told(byteOf), () -> model.told(byteOf));
        }
    }
}
