import java.util.ArrayList;
import java.util.LinkedHashMap;
import java.util.List;
import java.util.Map;
import java.util.NoSuchElementException;

/**
 * A second desk, written from the document with texts, lists and maps and without a thought of cost;
 * UNDO keeps whole copies of all papers. Random runs compare the class with it.
 */
final class Model {
    record Style(int name, int look) {
    }

    record Glyph(char c, Style style) {
    }

    record Item(int level, String text) {
    }

    private static final Style ZERO = new Style(0, 0);

    private static final class Sheet {
        final int make;
        List<Glyph> row = new ArrayList<>();
        List<Style> styles = new ArrayList<>(List.of(ZERO));
        String[][] cells = new String[6][6];
        boolean[] hidden = new boolean[6];
        List<Item> items = new ArrayList<>();

        Sheet(int make) {
            this.make = make;
            for (String[] row : cells) {
                java.util.Arrays.fill(row, "");
            }
        }

        Sheet copy() {
            Sheet s = new Sheet(make);
            s.row.addAll(row);
            s.styles = new ArrayList<>(styles);
            for (int r = 0; r < 6; r++) {
                s.cells[r] = cells[r].clone();
            }
            s.hidden = hidden.clone();
            s.items.addAll(items);
            return s;
        }
    }

    private static final class Scrap {
        int number;
        int sort;
        boolean pinned;
        int hidden;
        List<Glyph> row = new ArrayList<>();
        List<List<String>> box = new ArrayList<>();
        List<Item> items = new ArrayList<>();

        String form() {
            if (sort == 0) {
                return textOfGlyphs(row);
            }
            List<String> lines = new ArrayList<>();
            if (sort == 1) {
                for (List<String> cells : box) {
                    lines.add(String.join("\t", cells));
                }
            } else {
                int least = items.stream().mapToInt(Item::level).min().orElse(0);
                for (int i = 0; i < items.size(); i++) {
                    Item item = items.get(i);
                    lines.add("  ".repeat(item.level() - least) + numberOf(items, i) + ". " + item.text());
                }
            }
            return String.join("\n", lines);
        }

        long styled(int n) {
            return sort != 0 ? 0 : row.subList(0, n).stream().filter(g -> !g.style().equals(ZERO)).count();
        }
    }

    private List<Sheet> papers = new ArrayList<>();
    private final List<Scrap> shelf = new ArrayList<>();
    private final List<List<Sheet>> acts = new ArrayList<>();
    private final List<Integer> tape = new ArrayList<>();
    private String out = "";
    private int next;
    private final int[] losses = new int[8];

    static String textOfGlyphs(List<Glyph> row) {
        StringBuilder text = new StringBuilder();
        for (Glyph g : row) {
            text.append(g.c());
        }
        return text.toString();
    }

    static int numberOf(List<Item> items, int i) {
        int level = items.get(i).level();
        for (int j = i - 1; j >= 0; j--) {
            if (items.get(j).level() < level) {
                return 1;
            }
            if (items.get(j).level() == level) {
                return numberOf(items, j) + 1;
            }
        }
        return 1;
    }

    private Sheet sheet(int paper) {
        if (paper < 0 || paper >= papers.size()) {
            throw new NoSuchElementException();
        }
        return papers.get(paper);
    }

    private Scrap scrap(int number) {
        for (Scrap s : shelf) {
            if (s.number == number) {
                return s;
            }
        }
        throw new NoSuchElementException();
    }

    private static void need(boolean there) {
        if (!there) {
            throw new NoSuchElementException();
        }
    }

    private static boolean in(int k, int from, int to) {
        return k >= from && k <= to;
    }

    private void act() {
        List<Sheet> copy = new ArrayList<>();
        for (Sheet s : papers) {
            copy.add(s.copy());
        }
        acts.add(copy);
        if (acts.size() > 20) {
            acts.remove(0);
        }
    }

    private int shelve(Scrap s) {
        if (s.form().length() > 1000) {
            return -1;
        }
        s.number = next++;
        shelf.add(s);
        trim();
        return s.number;
    }

    private void trim() {
        if (shelf.stream().filter(s -> !s.pinned).count() > 6) {
            shelf.remove(shelf.stream().filter(s -> !s.pinned).findFirst().get());
        }
    }

    int paper(int make) {
        if (papers.size() == 6 || !in(make, 0, 3)) {
            return -1;
        }
        papers.add(new Sheet(make));
        return papers.size() - 1;
    }

    int feed(int... words) {
        if (tape.size() + 20 > 400) {
            return -1;
        }
        for (int word : words) {
            for (int shift = 24; shift >= 0; shift -= 8) {
                tape.add(word >> shift & 255);
            }
        }
        return tape.size();
    }

    /** The first n bytes, and the tape is empty; null if one of them is none. */
    private String fromTape(int n, boolean row) {
        StringBuilder text = new StringBuilder();
        boolean good = true;
        for (int b : tape.subList(0, n)) {
            good &= in(b, 32, 126) || row && (b == 9 || b == 10);
            text.append((char) b);
        }
        tape.clear();
        return good ? text.toString() : null;
    }

    private void needTape(int n) {
        if (n < 0 || n > tape.size()) {
            throw new IllegalArgumentException();
        }
    }

    int type(int paper, int place, int style, int n) {
        Sheet s = sheet(paper);
        needTape(n);
        String text = fromTape(n, true);
        if (s.make > 1 || text == null || !in(place, 0, s.row.size()) || s.row.size() + n > 1000
                || s.make == 1 && !in(style, 0, s.styles.size() - 1)) {
            return -1;
        }
        act();
        for (int k = n - 1; k >= 0; k--) {
            s.row.add(place, new Glyph(text.charAt(k), s.make == 0 ? ZERO : s.styles.get(style)));
        }
        return s.row.size();
    }

    boolean cell(int paper, int row, int column, int n) {
        Sheet s = sheet(paper);
        needTape(n);
        String text = fromTape(n, false);
        if (s.make != 2 || text == null || !in(row, 0, 5) || !in(column, 0, 5) || n > 20) {
            return false;
        }
        act();
        s.cells[row][column] = text;
        return true;
    }

    int item(int paper, int i, int level, int n) {
        Sheet s = sheet(paper);
        needTape(n);
        String text = fromTape(n, false);
        if (s.make != 3 || text == null || !in(i, 0, s.items.size()) || !in(level, 0, 5) || n > 40
                || s.items.size() == 30) {
            return -1;
        }
        act();
        s.items.add(i, new Item(level, text));
        return s.items.size();
    }

    int style(int paper, int name, int look) {
        Sheet s = sheet(paper);
        if (s.make != 1 || s.styles.size() == 8 || !in(name, 0, 99) || !in(look, 0, 999)
                || s.styles.stream().anyMatch(t -> t.name() == name)) {
            return -1;
        }
        act();
        s.styles.add(new Style(name, look));
        return s.styles.size() - 1;
    }

    boolean hide(int paper, int row, boolean is) {
        Sheet s = sheet(paper);
        if (s.make != 2 || !in(row, 0, 5)) {
            return false;
        }
        act();
        boolean was = s.hidden[row];
        s.hidden[row] = is;
        return was;
    }

    int copyRow(int paper, int a, int b, boolean cut) {
        Sheet s = sheet(paper);
        if (s.make > 1 || a < 0 || b > s.row.size() || a >= b) {
            return -1;
        }
        Scrap made = new Scrap();
        made.row.addAll(s.row.subList(a, b));
        int number = shelve(made);
        if (cut && number >= 0) {
            act();
            s.row.subList(a, b).clear();
        }
        return number;
    }

    int copyBox(int paper, int row, int column, int toRow, int toColumn, boolean cut) {
        Sheet s = sheet(paper);
        if (s.make != 2 || !in(row, 0, 5) || !in(toRow, row, 5) || !in(column, 0, 5) || !in(toColumn, column, 5)) {
            return -1;
        }
        Scrap made = new Scrap();
        made.sort = 1;
        for (int r = row; r <= toRow; r++) {
            if (s.hidden[r]) {
                made.hidden++;
            } else {
                made.box.add(new ArrayList<>(List.of(s.cells[r]).subList(column, toColumn + 1)));
            }
        }
        if (made.box.isEmpty()) {
            return -1;
        }
        int number = shelve(made);
        if (cut && number >= 0) {
            act();
            for (int r = row; r <= toRow; r++) {
                for (int c = column; c <= toColumn; c++) {
                    s.cells[r][c] = s.hidden[r] ? s.cells[r][c] : "";
                }
            }
        }
        return number;
    }

    int copyItems(int paper, int a, int b, boolean cut) {
        Sheet s = sheet(paper);
        if (s.make != 3 || a < 0 || b > s.items.size() || a >= b) {
            return -1;
        }
        Scrap made = new Scrap();
        made.sort = 2;
        made.items.addAll(s.items.subList(a, b));
        int number = shelve(made);
        if (cut && number >= 0) {
            act();
            s.items.subList(a, b).clear();
        }
        return number;
    }

    int join(int piece, int other) {
        Scrap one = scrap(piece);
        Scrap two = scrap(other);
        Scrap made = new Scrap();
        made.hidden = one.hidden + two.hidden;
        if (one.sort == 0 && two.sort == 0) {
            made.row.addAll(one.row);
            made.row.addAll(two.row);
        } else if (one.sort == 2 && two.sort == 2) {
            made.sort = 2;
            made.items.addAll(one.items);
            made.items.addAll(two.items);
        } else if (one.sort == 1 && two.sort == 1 && one.box.get(0).size() == two.box.get(0).size()
                && one.box.size() + two.box.size() <= 12) {
            made.sort = 1;
            made.box.addAll(one.box);
            made.box.addAll(two.box);
        } else {
            for (char c : (one.form() + "\n" + two.form()).toCharArray()) {
                made.row.add(new Glyph(c, ZERO));
            }
        }
        return shelve(made);
    }

    boolean pin(int piece, boolean is) {
        Scrap s = scrap(piece);
        if (s.pinned == is || is && count(2) == 4) {
            return false;
        }
        s.pinned = is;
        trim();
        return true;
    }

    int piece(int piece, int what) {
        Scrap s = scrap(piece);
        need(in(what, 0, 5));
        int[] facts = {s.sort, s.form().length(),
            s.sort == 1 ? s.box.size() : s.sort == 2 ? s.items.size() : -1,
            s.sort == 1 ? s.box.get(0).size() : -1, s.pinned ? 1 : 0, s.hidden};
        return facts[what];
    }

    private void startPut(Scrap p) {
        act();
        java.util.Arrays.fill(losses, 0);
        losses[7] = p.hidden;
    }

    int putRow(int paper, int piece, int place, int way) {
        Sheet s = sheet(paper);
        Scrap p = scrap(piece);
        if (s.make > 1 || !in(place, 0, s.row.size()) || s.make == 1 && !in(way, 0, 1)) {
            return -1;
        }
        startPut(p);
        String form = p.form();
        int came = Math.min(form.length(), 1000 - s.row.size());
        losses[3] = form.length() - came;
        if (s.make == 0) {
            losses[0] = (int) p.styled(came);
        }
        Map<Style, Style> met = new LinkedHashMap<>();
        Map<Style, Integer> kinds = new LinkedHashMap<>();
        List<Glyph> coming = new ArrayList<>();
        for (int k = 0; k < came; k++) {
            Style style = p.sort == 0 ? p.row.get(k).style() : ZERO;
            if (s.make == 1 && !style.equals(ZERO)) {
                if (!met.containsKey(style)) {
                    meet(s, style, way, met, kinds);
                }
                if (kinds.get(style) >= 0) {
                    losses[kinds.get(style)]++;
                }
                coming.add(new Glyph(form.charAt(k), met.get(style)));
            } else {
                coming.add(new Glyph(form.charAt(k), ZERO));
            }
        }
        s.row.addAll(place, coming);
        return came;
    }

    private static void meet(Sheet s, Style style, int way, Map<Style, Style> met, Map<Style, Integer> kinds) {
        for (Style t : s.styles) {
            if (way == 0 ? t.name() == style.name() : t.look() == style.look()) {
                met.put(style, t);
                kinds.put(style, t.equals(style) ? -1 : way == 0 ? 1 : 2);
                return;
            }
        }
        boolean taken = s.styles.stream().anyMatch(t -> t.name() == style.name());
        if (s.styles.size() < 8 && !taken) {
            s.styles.add(style);
            met.put(style, style);
            kinds.put(style, -1);
        } else {
            met.put(style, ZERO);
            kinds.put(style, 0);
        }
    }

    int putBox(int paper, int piece, int row, int column) {
        Sheet s = sheet(paper);
        Scrap p = scrap(piece);
        if (s.make != 2 || !in(row, 0, 5) || !in(column, 0, 5)) {
            return -1;
        }
        startPut(p);
        losses[0] = (int) p.styled(p.row.size());
        List<List<String>> parts = new ArrayList<>(p.box);
        if (p.sort != 1) {
            for (String line : p.form().split("\n", -1)) {
                parts.add(List.of(line.split("\t", -1)));
            }
        }
        int came = 0;
        for (int r = 0; r < parts.size(); r++) {
            for (int c = 0; c < parts.get(r).size(); c++) {
                String text = parts.get(r).get(c);
                if (row + r > 5 || column + c > 5) {
                    losses[4] += text.isEmpty() ? 0 : 1;
                } else {
                    came++;
                    losses[3] += Math.max(0, text.length() - 20);
                    s.cells[row + r][column + c] = text.substring(0, Math.min(20, text.length()));
                }
            }
        }
        return came;
    }

    int putItems(int paper, int piece, int i, int level) {
        Sheet s = sheet(paper);
        Scrap p = scrap(piece);
        if (s.make != 3 || !in(i, 0, s.items.size()) || !in(level, 0, 5)) {
            return -1;
        }
        startPut(p);
        losses[0] = (int) p.styled(p.row.size());
        List<Item> parts = new ArrayList<>();
        if (p.sort == 2) {
            for (Item item : p.items) {
                parts.add(new Item(item.level() - p.items.get(0).level() + level, item.text()));
            }
        } else {
            for (String line : p.form().split("\n", -1)) {
                parts.add(new Item(level, line.replace('\t', ' ')));
            }
        }
        int came = 0;
        for (Item item : parts) {
            if (s.items.size() == 30) {
                losses[6]++;
                continue;
            }
            int given = item.level() > 5 ? 5 : item.level() < 0 ? 0 : item.level();
            losses[5] += given == item.level() ? 0 : 1;
            losses[3] += Math.max(0, item.text().length() - 40);
            s.items.add(i + came, new Item(given, item.text().substring(0, Math.min(40, item.text().length()))));
            came++;
        }
        return came;
    }

    int lost(int kind) {
        need(in(kind, 0, 7));
        return losses[kind];
    }

    boolean undo() {
        if (acts.isEmpty()) {
            return false;
        }
        List<Sheet> before = acts.remove(acts.size() - 1);
        for (int k = before.size(); k < papers.size(); k++) {
            before.add(papers.get(k));
        }
        papers = before;
        return true;
    }

    int about(int paper, int what) {
        Sheet s = sheet(paper);
        need(in(what, 0, 2));
        int size = s.make < 2 ? s.row.size() : s.make == 2 ? 36 : s.items.size();
        return what == 0 ? s.make : what == 1 ? size : s.make == 1 ? s.styles.size() : -1;
    }

    int at(int paper, int place, int what) {
        Sheet s = sheet(paper);
        need(s.make < 2 && in(place, 0, s.row.size() - 1) && in(what, 0, 1));
        Glyph g = s.row.get(place);
        return what == 0 ? g.c() : s.styles.indexOf(g.style());
    }

    int styleOf(int paper, int style, int what) {
        Sheet s = sheet(paper);
        need(s.make == 1 && in(style, 0, s.styles.size() - 1) && in(what, 0, 1));
        return what == 0 ? s.styles.get(style).name() : s.styles.get(style).look();
    }

    int itemOf(int paper, int i, int what) {
        Sheet s = sheet(paper);
        need(s.make == 3 && in(i, 0, s.items.size() - 1) && in(what, 0, 2));
        Item item = s.items.get(i);
        return what == 0 ? item.level() : what == 1 ? numberOf(s.items, i) : item.text().length();
    }

    int cellOf(int paper, int row, int column) {
        Sheet s = sheet(paper);
        need(s.make == 2 && in(row, 0, 5) && in(column, 0, 5));
        out = s.cells[row][column];
        return out.length();
    }

    int textOf(int paper, int i) {
        Sheet s = sheet(paper);
        need(s.make == 3 && in(i, 0, s.items.size() - 1));
        out = s.items.get(i).text();
        return out.length();
    }

    int plain(int piece) {
        out = scrap(piece).form();
        return out.length();
    }

    int told(int k) {
        need(in(k, 0, out.length() - 1));
        return out.charAt(k);
    }

    int count(int what) {
        need(in(what, 0, 5));
        int pinned = (int) shelf.stream().filter(s -> s.pinned).count();
        int[] counts = {papers.size(), shelf.size(), pinned, acts.size(), tape.size(), out.length()};
        return counts[what];
    }
}
