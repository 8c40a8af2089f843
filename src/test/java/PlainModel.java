import java.util.ArrayList;
import java.util.List;
import java.util.NoSuchElementException;

/**
 * The document once more, told another way: lists hold their nodes, boxes are never
 * changed, and places are added up from the inside outwards. ModelTest compares it with the class.
 */
final class PlainModel {
    private static final String[] SPACES = {
        "01bc000a", "110c000a", "bb00b00b", "cc00c00c", "00000000", "01bc000a", "aa0aaaaa", "a1bca0aa"};
    private static final int[] Z = {10, 10, 7, 5};

    record Item(int what, int x, int y, int size, int width, int face, int node, int tooShort) {
        Item at(int dx, int dy) {
            return new Item(what, x + dx, y + dy, size, width, face, node, tooShort);
        }

        int value(int field) {
            return new int[] {what, x, y, size, width, face, node, tooShort}[field];
        }
    }

    record Box(int width, int height, int depth, List<Item> items) {
    }

    record Part(Box box, int x, int y) {
    }

    /** form: 's' sign, 'f' fraction, 'e' fence, 'm' matrix, 'y' style node. */
    static final class Entry {
        final int number;
        final char form;
        final int kind;
        final int a;
        final int b;
        final List<Integer> parts;
        int upper = -1;
        int lower = -1;

        Entry(int number, char form, int kind, int a, int b, List<Integer> parts) {
            this.number = number;
            this.form = form;
            this.kind = kind;
            this.a = a;
            this.b = b;
            this.parts = parts;
        }

        List<Integer> lists() {
            List<Integer> all = new ArrayList<>(parts);
            if (upper >= 0) {
                all.add(upper);
            }
            if (lower >= 0) {
                all.add(lower);
            }
            return all;
        }
    }

    private final List<List<Entry>> lists = new ArrayList<>();
    private final List<Entry> all = new ArrayList<>();
    private int open = 0;
    private Box last = new Box(0, 0, 0, List.of());

    PlainModel() {
        lists.add(new ArrayList<>());
    }

    int atom(int kind, int nucleus) {
        if (kind == 8) {
            open = begin();
            return open;
        }
        if (kind < 0 || kind > 7 || nucleus < 0 || nucleus > 255) {
            throw new IllegalArgumentException();
        }
        return add('s', kind, nucleus, 0, List.of());
    }

    int script(int atom, boolean upper, int list) {
        Entry base = atomAt(atom);
        needList(list);
        int there = upper ? base.upper : base.lower;
        if (there >= 0 || !free(list) || reaches(list, base)) {
            throw new IllegalStateException();
        }
        if (upper) {
            base.upper = list;
        } else {
            base.lower = list;
        }
        return base.upper >= 0 && base.lower >= 0 ? 2 : 1;
    }

    int fraction(int over, int under, long rule) {
        needList(over);
        needList(under);
        if (rule > 1000) {
            throw new IllegalArgumentException();
        }
        if (over == under || !fits(over) || !fits(under)) {
            throw new IllegalStateException();
        }
        return add('f', 7, (int) Math.max(rule, -1), 0, List.of(over, under));
    }

    int fence(int left, int list, int right) {
        needList(list);
        if (left < 0 || left > 5 || right < 0 || right > 5) {
            throw new IllegalArgumentException();
        }
        if (!fits(list)) {
            throw new IllegalStateException();
        }
        needNode();
        boolean same = left == right && left != 0;
        boolean one = (left == 0) != (right == 0);
        return same || one ? add('e', 7, left, right, List.of(list)) + 1 : 0;
    }

    int matrix(int rows, int columns) {
        needNode();
        if (rows < 1 || rows > 5 || columns < 1 || columns > 5) {
            return 0;
        }
        List<Integer> free = new ArrayList<>();
        for (int list = 0; list < lists.size(); list++) {
            if (list != open && free(list)) {
                free.add(list);
            }
        }
        int wanted = rows * columns;
        if (free.size() < wanted) {
            return 0;
        }
        List<Integer> cells = new ArrayList<>(free.subList(free.size() - wanted, free.size()));
        for (int cell : cells) {
            if (!fits(cell)) {
                return 0;
            }
        }
        return add('m', 7, rows, columns, cells) + 1;
    }

    int style(int s, boolean cramped) {
        if (s < 0 || s > 3) {
            throw new IllegalArgumentException();
        }
        return add('y', -1, s, cramped ? 1 : 0, List.of());
    }

    int run(int list) {
        needList(list);
        last = layList(list, 0, false);
        return last.items.size();
    }

    int item(int i, int what) {
        if (i == -1) {
            return switch (what) {
                case 0 -> last.width;
                case 1 -> last.height;
                case 2 -> last.depth;
                default -> throw new IndexOutOfBoundsException();
            };
        }
        if (i < 0 || i >= last.items.size() || what < 0 || what > 7) {
            throw new IndexOutOfBoundsException();
        }
        return last.items.get(i).value(what);
    }

    int space(int a, int b) {
        if (a < 0 || a > 7 || b < 0 || b > 7) {
            throw new IllegalArgumentException();
        }
        return "0abc".indexOf(SPACES[a].charAt(b)) >= 0 ? "0abc".indexOf(SPACES[a].charAt(b)) : 1;
    }

    int kind(int i) {
        Entry asked = atomAt(i);
        for (List<Entry> list : lists) {
            List<Entry> atoms = atomsOf(list);
            if (atoms.contains(asked)) {
                return counted(atoms).get(atoms.indexOf(asked));
            }
        }
        throw new AssertionError("an atom in no list");
    }

    int split(int list, int i) {
        needList(list);
        List<Entry> whole = lists.get(list);
        List<Entry> relations = whole.stream().filter(e -> e.kind == 3).toList();
        if (i < 0 || i >= relations.size()) {
            throw new IndexOutOfBoundsException();
        }
        int at = whole.indexOf(relations.get(i));
        int made = begin();
        lists.set(made, new ArrayList<>(whole.subList(at, whole.size())));
        lists.set(list, new ArrayList<>(whole.subList(0, at)));
        if (open == list) {
            open = made;
        }
        return made;
    }

    private int begin() {
        if (lists.size() == 30) {
            throw new UnsupportedOperationException();
        }
        lists.add(new ArrayList<>());
        return lists.size() - 1;
    }

    private void needNode() {
        if (all.size() == 120) {
            throw new UnsupportedOperationException();
        }
    }

    private int add(char form, int kind, int a, int b, List<Integer> parts) {
        needNode();
        Entry made = new Entry(all.size(), form, kind, a, b, parts);
        all.add(made);
        lists.get(open).add(made);
        return made.number;
    }

    private void needList(int list) {
        if (list < 0 || list >= lists.size()) {
            throw new NoSuchElementException();
        }
    }

    private Entry atomAt(int i) {
        if (i < 0 || i >= all.size() || all.get(i).form == 'y') {
            throw new NoSuchElementException();
        }
        return all.get(i);
    }

    private boolean free(int list) {
        return list != 0 && all.stream().noneMatch(e -> e.lists().contains(list));
    }

    private boolean fits(int list) {
        return free(list) && !reachesList(list, open);
    }

    private boolean reaches(int list, Entry atom) {
        return lists.get(list).stream().anyMatch(
            e -> e == atom || e.lists().stream().anyMatch(inner -> reaches(inner, atom)));
    }

    private boolean reachesList(int list, int wanted) {
        return list == wanted || lists.get(list).stream().anyMatch(
            e -> e.lists().stream().anyMatch(inner -> reachesList(inner, wanted)));
    }

    private static List<Entry> atomsOf(List<Entry> list) {
        return list.stream().filter(e -> e.form != 'y').toList();
    }

    private static List<Integer> counted(List<Entry> atoms) {
        List<Integer> kinds = new ArrayList<>();
        for (int i = 0; i < atoms.size(); i++) {
            int own = atoms.get(i).kind;
            boolean start = i == 0 || List.of(1, 2, 3, 4, 6).contains(kinds.get(i - 1));
            boolean stop = i == atoms.size() - 1 || List.of(3, 5, 6).contains(atoms.get(i + 1).kind);
            kinds.add(own == 2 && (start || stop) ? 0 : own);
        }
        return kinds;
    }

    private Box layList(int list, int style, boolean cramped) {
        List<Integer> kinds = counted(atomsOf(lists.get(list)));
        List<Part> parts = new ArrayList<>();
        int x = 0;
        int seen = 0;
        for (Entry entry : lists.get(list)) {
            if (entry.form == 'y') {
                style = entry.a;
                cramped = entry.b == 1;
                continue;
            }
            if (seen > 0) {
                char told = SPACES[kinds.get(seen - 1)].charAt(kinds.get(seen));
                if (told == '1') {
                    x += Z[style];
                } else if (told != '0' && style < 2) {
                    x += Z[style] * (told - 'a' + 1);
                }
            }
            Box box = layAtom(entry, style, cramped);
            parts.add(new Part(box, x, 0));
            x += box.width;
            seen++;
        }
        return join(x, parts);
    }

    private Box layAtom(Entry atom, int style, boolean cramped) {
        int z = Z[style];
        Box core = layCore(atom, style, cramped);
        int inner = style < 2 ? 2 : 3;
        Box up = atom.upper < 0 ? null : layList(atom.upper, inner, cramped);
        Box low = atom.lower < 0 ? null : layList(atom.lower, inner, true);
        if (up == null && low == null) {
            return core;
        }
        int upWidth = up == null ? 0 : up.width;
        int lowWidth = low == null ? 0 : low.width;
        List<Part> parts = new ArrayList<>();
        if (atom.kind == 1 && style == 0) {
            int w = Math.max(core.width, Math.max(upWidth, lowWidth));
            parts.add(new Part(core, (w - core.width) / 2, 0));
            if (up != null) {
                parts.add(new Part(up, (w - upWidth) / 2, core.height + z + up.depth));
            }
            if (low != null) {
                parts.add(new Part(low, (w - lowWidth) / 2, 0 - core.depth - z - low.height));
            }
            return join(w, parts);
        }
        parts.add(new Part(core, 0, 0));
        int upY = 0;
        if (up != null) {
            upY = greatest(core.height - 2 * z, cramped ? 3 * z : 4 * z, up.depth + z);
            parts.add(new Part(up, core.width, upY));
        }
        if (low != null) {
            int lowY = -greatest(core.depth + z, 2 * z, low.height - 4 * z);
            if (up != null) {
                lowY = Math.min(lowY, upY - up.depth - z - low.height);
            }
            parts.add(new Part(low, core.width, lowY));
        }
        return join(core.width + Math.max(upWidth, lowWidth) + z / 2, parts);
    }

    private Box layCore(Entry atom, int style, boolean cramped) {
        return switch (atom.form) {
            case 's' -> laySign(atom, style);
            case 'f' -> layFraction(atom, style, cramped);
            case 'e' -> layFence(atom, style, cramped);
            default -> layMatrix(atom, style);
        };
    }

    private static Box laySign(Entry atom, int style) {
        int c = atom.a;
        int size = atom.kind == 1 && style == 0 ? 14 : Z[style];
        int width = size * (4 + c % 5);
        Item item = new Item(0, 0, 0, size, width, c, atom.number, 0);
        return new Box(width, size * (5 + c % 3), c % 4 == 3 ? 2 * size : 0, List.of(item));
    }

    private Box layFraction(Entry atom, int style, boolean cramped) {
        int z = Z[style];
        int next = Math.min(style + 1, 3);
        Box over = layList(atom.parts.get(0), next, cramped);
        Box under = layList(atom.parts.get(1), next, true);
        int t = atom.a < 0 ? z / 2 : atom.a;
        int g = style == 0 ? 3 * z : z;
        int width = Math.max(over.width, under.width) + z;
        List<Part> parts = new ArrayList<>();
        parts.add(new Part(over, (width - over.width) / 2, 2 * z + t / 2 + g + over.depth));
        parts.add(new Part(under, (width - under.width) / 2, -(under.height + g + (t - t / 2) - 2 * z)));
        if (t > 0) {
            Item rule = new Item(1, 0, 0, t, width, 0, atom.number, 0);
            parts.add(new Part(new Box(width, t, 0, List.of(rule)), 0, 2 * z - (t - t / 2)));
        }
        return join(width, parts);
    }

    private Box layFence(Entry atom, int style, boolean cramped) {
        Box inside = layList(atom.parts.get(0), style, cramped);
        int z = Z[style];
        int must = 2 * Math.max(inside.height - 2 * z, inside.depth + 2 * z);
        int step = 0;
        while (step < 4 && 10 * z * (6 + 4 * step) < 9 * must) {
            step++;
        }
        int tooShort = 10 * z * (6 + 4 * step) < 9 * must ? 1 : 0;
        Box left = delimiter(atom.a, z, step, tooShort, atom.number);
        Box right = delimiter(atom.b, z, step, tooShort, atom.number);
        int end = left.width + inside.width;
        return join(end + right.width,
            List.of(new Part(left, 0, 0), new Part(inside, left.width, 0), new Part(right, end, 0)));
    }

    private static Box delimiter(int which, int z, int step, int tooShort, int node) {
        if (which == 0) {
            return new Box(z / 2, 0, 0, List.of());
        }
        int own = z * (6 + 4 * step);
        int width = z * (2 + which % 3);
        int height = 2 * z + own / 2;
        return new Box(width, height, own - height, List.of(new Item(2, 0, 0, step, width, which, node, tooShort)));
    }

    private Box layMatrix(Entry atom, int style) {
        int z = Z[style];
        int rows = atom.a;
        int columns = atom.b;
        Box[] cells = new Box[rows * columns];
        int[] wide = new int[columns];
        int[] high = new int[rows];
        int[] deep = new int[rows];
        int whole = 2 * z * (rows - 1);
        for (int i = 0; i < cells.length; i++) {
            cells[i] = layList(atom.parts.get(i), style == 0 ? 1 : style, false);
            wide[i % columns] = Math.max(wide[i % columns], cells[i].width);
            high[i / columns] = Math.max(high[i / columns], cells[i].height);
            deep[i / columns] = Math.max(deep[i / columns], cells[i].depth);
        }
        for (int r = 0; r < rows; r++) {
            whole += high[r] + deep[r];
        }
        int bottom = 2 * z - whole / 2;
        List<Part> parts = new ArrayList<>();
        int width = 0;
        int top = bottom + whole;
        for (int r = 0; r < rows; r++) {
            int x = 0;
            for (int c = 0; c < columns; c++) {
                Box cell = cells[r * columns + c];
                parts.add(new Part(cell, x + (wide[c] - cell.width) / 2, top - high[r]));
                x += wide[c] + 3 * z;
            }
            width = x - 3 * z;
            top -= high[r] + deep[r] + 2 * z;
        }
        return join(width, parts);
    }

    private static Box join(int width, List<Part> parts) {
        int height = 0;
        int depth = 0;
        List<Item> items = new ArrayList<>();
        for (Part part : parts) {
            height = Math.max(height, part.y + part.box.height);
            depth = Math.max(depth, part.box.depth - part.y);
            for (Item item : part.box.items) {
                items.add(item.at(part.x, part.y));
            }
        }
        return new Box(width, height, depth, items);
    }

    private static int greatest(int a, int b, int c) {
        return Math.max(a, Math.max(b, c));
    }
}
