import java.util.Random;

/** Random runs on a new desk and a new model: every answer is the same, and so is all that can be seen. */
public final class ModelTest {
    private static final int RUNS = 300;
    private static final int CALLS = 400;
    private static final int[] ODD = {-1, 6, 7, 8, 30, 31, 100, 999, 1000, 1001, Integer.MAX_VALUE, Integer.MIN_VALUE};

    private final Check check;
    private final Random random;
    private final CutDesk desk = new CutDesk();
    private final Model model = new Model();
    private final StringBuilder story = new StringBuilder();
    private final String name;
    private final boolean longTexts;
    private final long[] met;
    private int newest = -1;

    private ModelTest(Check check, int seed, long[] met) {
        this.check = check;
        this.met = met;
        this.random = new Random(seed);
        this.name = "seed " + seed;
        this.longTexts = seed % 3 == 0;
    }

    public static void main(String[] args) {
        Check check = new Check();
        long[] met = new long[8];
        for (int seed = 0; seed < RUNS && check.wrongTotal() == 0; seed++) {
            new ModelTest(check, seed, met).run();
        }
        for (int kind = 0; kind < met.length; kind++) {
            check.isTrue("runs with losses of kind " + kind, met[kind] > 0);
        }
        check.end();
    }

    private void run() {
        for (int k = 0; k < CALLS && check.wrongTotal() == 0; k++) {
            step();
            if (k % 40 == 39) {
                compareAll();
            }
        }
        if (check.wrongTotal() > 0) {
            System.out.println(name + "\n" + story);
        }
    }

    private int below(int n) {
        return random.nextInt(n);
    }

    /** Mostly a number that fits, at times an odd one. */
    private int some(int n) {
        return below(25) == 0 ? ODD[below(ODD.length)] : below(Math.max(1, n));
    }

    private int somePaper() {
        return some(model.count(0));
    }

    /** A paper of that make, mostly. */
    private int paperOf(int... makes) {
        int make = makes[below(makes.length)];
        for (int k = 0, p = below(6); k < 6; k++, p = (p + 1) % 6) {
            if (p < model.count(0) && model.about(p, 0) == make && below(20) > 0) {
                return p;
            }
        }
        return somePaper();
    }

    private int somePiece() {
        return below(25) == 0 ? some(newest + 2) : Math.max(0, newest - below(9));
    }

    private int size(int paper) {
        return paper < 0 || paper >= model.count(0) ? 3 : model.about(paper, 1);
    }

    private String same(String what, Check.Call ofDesk, Check.Call ofModel) {
        String want = Check.answerOf(ofModel);
        story.append(what).append(" -> ").append(want).append('\n');
        check.same(name + ": " + what, Check.answerOf(ofDesk), want);
        return want;
    }

    /** The same, of a call that answers a new PIECE. */
    private void samePiece(String what, Check.Call ofDesk, Check.Call ofModel) {
        String want = same(what, ofDesk, ofModel);
        if (Character.isDigit(want.charAt(0))) {
            newest = Integer.parseInt(want);
        }
    }

    private int someByte() {
        int pick = below(40);
        if (pick == 0) {
            return below(256);
        }
        return pick < 4 ? 10 : pick < 7 ? 9 : pick < 10 ? 32 : 97 + below(26);
    }

    private void feedSome(boolean characters) {
        int times = longTexts ? 1 + below(20) : 1 + below(3);
        for (int t = 0; t < times; t++) {
            int[] w = new int[5];
            for (int k = 0; k < 20; k++) {
                int b = characters && below(30) > 0 ? 97 + below(26) : someByte();
                w[k / 4] = w[k / 4] << 8 | b;
            }
            same("feed", () -> desk.feed(w[0], w[1], w[2], w[3], w[4]), () -> model.feed(w));
        }
    }

    private int someLength(int most) {
        int n = below(longTexts ? most + 2 : Math.min(most, 8));
        return below(30) == 0 ? some(400) : Math.min(n, model.count(4));
    }

    private void step() {
        if (model.count(0) < 6 && (model.count(0) < 4 || below(10) == 0)) {
            int make = below(10) == 0 ? some(5) : model.count(0) == 4 ? 1 : (model.count(0) + below(2)) % 4;
            same("paper(" + make + ")", () -> desk.paper(make), () -> model.paper(make));
        }
        switch (below(16)) {
            case 0, 1 -> typeSome();
            case 2 -> cellSome();
            case 3 -> itemSome();
            case 4 -> styleSome();
            case 5 -> hideSome();
            case 6, 7 -> copyRowSome();
            case 8 -> copyBoxSome();
            case 9 -> copyItemsSome();
            case 10 -> joinSome();
            case 11 -> pinSome();
            case 12, 13, 14 -> putSome();
            default -> undoSome();
        }
    }

    private void typeSome() {
        feedSome(false);
        int p = paperOf(0, 1, 1);
        int place = some(size(p) + 1);
        int style = some(Math.max(1, p >= 0 && p < model.count(0) ? model.about(p, 2) : 1));
        int n = someLength(400);
        same("type(" + p + ", " + place + ", " + style + ", " + n + ")",
                () -> desk.type(p, place, style, n), () -> model.type(p, place, style, n));
    }

    private void cellSome() {
        feedSome(true);
        int p = paperOf(2);
        int r = some(6);
        int c = some(6);
        int n = someLength(20);
        same("cell(" + p + ", " + r + ", " + c + ", " + n + ")",
                () -> desk.cell(p, r, c, n) ? 1 : 0, () -> model.cell(p, r, c, n) ? 1 : 0);
    }

    private void itemSome() {
        feedSome(true);
        int p = paperOf(3);
        int i = some(size(p) + 1);
        int level = some(6);
        int n = someLength(40);
        same("item(" + p + ", " + i + ", " + level + ", " + n + ")",
                () -> desk.item(p, i, level, n), () -> model.item(p, i, level, n));
    }

    private void styleSome() {
        int p = paperOf(1);
        int nameOfIt = some(6);
        int look = some(4);
        same("style(" + p + ", " + nameOfIt + ", " + look + ")",
                () -> desk.style(p, nameOfIt, look), () -> model.style(p, nameOfIt, look));
    }

    private void hideSome() {
        int p = paperOf(2);
        int r = some(6);
        boolean is = below(3) == 0;
        same("hide(" + p + ", " + r + ", " + is + ")",
                () -> desk.hide(p, r, is) ? 1 : 0, () -> model.hide(p, r, is) ? 1 : 0);
    }

    private void copyRowSome() {
        int p = paperOf(0, 1);
        int a = some(size(p) + 1);
        int b = some(size(p) + 1);
        boolean cut = below(3) == 0;
        samePiece("copyRow(" + p + ", " + a + ", " + b + ", " + cut + ")",
                () -> desk.copyRow(p, a, b, cut), () -> model.copyRow(p, a, b, cut));
    }

    private void copyBoxSome() {
        int p = paperOf(2);
        int r = some(4);
        int c = some(4);
        int toR = r + some(3);
        int toC = c + some(3);
        boolean cut = below(3) == 0;
        samePiece("copyBox(" + p + ", " + r + ", " + c + ", " + toR + ", " + toC + ", " + cut + ")",
                () -> desk.copyBox(p, r, c, toR, toC, cut), () -> model.copyBox(p, r, c, toR, toC, cut));
    }

    private void copyItemsSome() {
        int p = paperOf(3);
        int a = some(size(p) + 1);
        int b = some(size(p) + 1);
        boolean cut = below(4) == 0;
        samePiece("copyItems(" + p + ", " + a + ", " + b + ", " + cut + ")",
                () -> desk.copyItems(p, a, b, cut), () -> model.copyItems(p, a, b, cut));
    }

    private void joinSome() {
        int one = somePiece();
        int two = somePiece();
        samePiece("join(" + one + ", " + two + ")", () -> desk.join(one, two), () -> model.join(one, two));
    }

    private void pinSome() {
        int piece = somePiece();
        boolean is = below(3) > 0;
        same("pin(" + piece + ", " + is + ")",
                () -> desk.pin(piece, is) ? 1 : 0, () -> model.pin(piece, is) ? 1 : 0);
    }

    private void putSome() {
        int piece = somePiece();
        int p = somePaper();
        int make = p >= 0 && p < model.count(0) && below(15) > 0 ? model.about(p, 0) : below(4);
        if (make < 2) {
            int place = some(size(p) + 1);
            int way = some(2);
            same("putRow(" + p + ", " + piece + ", " + place + ", " + way + ")",
                    () -> desk.putRow(p, piece, place, way), () -> model.putRow(p, piece, place, way));
        } else if (make == 2) {
            int r = some(6);
            int c = some(6);
            same("putBox(" + p + ", " + piece + ", " + r + ", " + c + ")",
                    () -> desk.putBox(p, piece, r, c), () -> model.putBox(p, piece, r, c));
        } else {
            int i = some(size(p) + 1);
            int level = some(6);
            same("putItems(" + p + ", " + piece + ", " + i + ", " + level + ")",
                    () -> desk.putItems(p, piece, i, level), () -> model.putItems(p, piece, i, level));
        }
        compareLosses();
        for (int kind = 0; kind < met.length; kind++) {
            met[kind] += model.lost(kind) > 0 ? 1 : 0;
        }
    }

    private void undoSome() {
        int times = below(8) == 0 ? below(25) : 1;
        for (int k = 0; k < times; k++) {
            same("undo()", () -> desk.undo() ? 1 : 0, () -> model.undo() ? 1 : 0);
        }
    }

    private void compareLosses() {
        for (int kind = 0; kind < 8; kind++) {
            int k = kind;
            same("lost(" + k + ")", () -> desk.lost(k), () -> model.lost(k));
        }
    }

    private void compareAll() {
        int mark = story.length();
        compareLosses();
        for (int what = -1; what < 7; what++) {
            int w = what;
            same("count(" + w + ")", () -> desk.count(w), () -> model.count(w));
        }
        for (int p = 0; p < 7; p++) {
            comparePaper(p);
        }
        for (int piece = 0; piece <= newest + 1; piece++) {
            comparePiece(piece);
        }
        if (check.wrongTotal() == 0) {
            story.setLength(mark);
        }
    }

    private void comparePaper(int p) {
        for (int what = 0; what < 4; what++) {
            int w = what;
            same("about(" + p + ", " + w + ")", () -> desk.about(p, w), () -> model.about(p, w));
        }
        int make = p < model.count(0) ? model.about(p, 0) : -1;
        int most = make == -1 || make == 2 ? 0 : model.about(p, 1);
        for (int k = 0; k <= most; k++) {
            comparePlace(p, k, make);
        }
        for (int k = 0; k < (make == 2 ? 42 : 1); k++) {
            int r = k / 6;
            int c = k % 6;
            same("cellOf(" + p + ", " + r + ", " + c + ")",
                    () -> desk.cellOf(p, r, c), () -> model.cellOf(p, r, c));
            compareOut();
        }
    }

    /** What the paper's make hasn't got is asked of its first place alone: exceptions take their time. */
    private void comparePlace(int p, int place, int make) {
        for (int what = 0; what < 3; what++) {
            int w = what;
            if (make < 2 || place == 0) {
                same("at(" + p + ", " + place + ", " + w + ")",
                        () -> desk.at(p, place, w), () -> model.at(p, place, w));
            }
            if (make == 3 || place == 0) {
                same("itemOf(" + p + ", " + place + ", " + w + ")",
                        () -> desk.itemOf(p, place, w), () -> model.itemOf(p, place, w));
            }
            if (place <= 8) {
                same("styleOf(" + p + ", " + place + ", " + w + ")",
                        () -> desk.styleOf(p, place, w), () -> model.styleOf(p, place, w));
            }
        }
        if (make == 3 || place == 0) {
            same("textOf(" + p + ", " + place + ")", () -> desk.textOf(p, place), () -> model.textOf(p, place));
            compareOut();
        }
    }

    private void comparePiece(int piece) {
        for (int what = 0; what < 7; what++) {
            int w = what;
            same("piece(" + piece + ", " + w + ")", () -> desk.piece(piece, w), () -> model.piece(piece, w));
        }
        same("plain(" + piece + ")", () -> desk.plain(piece), () -> model.plain(piece));
        if (!Check.answerOf(() -> model.plain(piece)).equals(Check.NO_SUCH)) {
            compareOut();
        }
    }

    private void compareOut() {
        int n = model.count(5);
        for (int k = 0; k <= n; k++) {
            int byteOf = k;
            same("told(" + k + ")", () -> desk.told(byteOf), () -> model.told(byteOf));
        }
    }
}
