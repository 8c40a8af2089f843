import java.util.NoSuchElementException;

public final class FormulaLists {
    private static final int MOST_LISTS = 30;
    private static final int MOST_NODES = 120;
    private static final int SIGNS = 256;
    private static final int MOST_RULE = 1000;
    private static final int MOST_CELLS_A_SIDE = 5;
    private static final int LAST_DELIMITER = 5;
    private static final int LAST_STEP = 4;

    private static final int ORDINARY = 0;
    private static final int OPERATOR = 1;
    private static final int BINARY = 2;
    private static final int RELATION = 3;
    private static final int CLOSING = 5;
    private static final int POINT = 6;
    private static final int INNER = 7;
    private static final int KINDS = 8;
    private static final int A_LIST = 8;
    private static final int NONE_BEFORE = -1;

    private static final int DISPLAY = 0;
    private static final int TEXT = 1;
    private static final int SCRIPT = 2;
    private static final int SMALL = 3;
    private static final int STYLES = 4;
    private static final int BIG_OPERATOR = 14;

    private static final int ALWAYS_THIN = 1;

    // Rows are the first one's kind, columns the second one's. 1 is thin in
    // every style; 2, 3, 4 (the document's a, b, c) vanish in scripts.
    private static final int[] SPACES = {
        0, 1, 3, 4, 0, 0, 0, 2,
        1, 1, 0, 4, 0, 0, 0, 2,
        3, 3, 0, 0, 3, 0, 0, 3,
        4, 4, 0, 0, 4, 0, 0, 4,
        0, 0, 0, 0, 0, 0, 0, 0,
        0, 1, 3, 4, 0, 0, 0, 2,
        2, 2, 0, 2, 2, 2, 2, 2,
        2, 1, 3, 4, 2, 0, 2, 2,
    };

    private final Node[] nodes;
    private final Row[] lists;
    private final Page page;
    private int nodeCount;
    private int listCount;
    private Row open;

    public FormulaLists() {
        nodes = new Node[MOST_NODES];
        lists = new Row[MOST_LISTS];
        page = new Page();
        open = new Row(0);
        lists[0] = open;
        listCount = 1;
    }

    public int atom(int kind, int nucleus) throws IllegalArgumentException, UnsupportedOperationException {
        if (kind == A_LIST) {
            refuseWhenListsAreFull();
            open = beginList();
            return open.number;
        }
        if (!isKind(kind) || nucleus < 0 || nucleus >= SIGNS) {
            throw new IllegalArgumentException("no such kind, or sign");
        }
        refuseWhenNodesAreFull();
        return addNode(new Sign(nodeCount, kind, nucleus));
    }

    public int script(int atom, boolean upper, int list) throws NoSuchElementException, IllegalStateException {
        Atom base = findAtom(atom);
        Row added = findList(list);
        if (base == null || added == null) {
            throw new NoSuchElementException("no such atom, or list");
        }
        boolean taken = upper ? base.upper != null : base.lower != null;
        if (taken || !mayComeInto(added, base.home)) {
            throw new IllegalStateException("there is a script already, or the list may not come in");
        }
        if (upper) {
            base.upper = added;
        } else {
            base.lower = added;
        }
        added.owner = base;
        return base.scriptCount();
    }

    public int fraction(int over, int under, long rule)
            throws NoSuchElementException, IllegalArgumentException, IllegalStateException, UnsupportedOperationException {
        Row above = findList(over);
        Row below = findList(under);
        if (above == null || below == null) {
            throw new NoSuchElementException("no such list");
        }
        if (rule > MOST_RULE) {
            throw new IllegalArgumentException("the rule is above 1000");
        }
        if (above == below || !mayComeInto(above, open) || !mayComeInto(below, open)) {
            throw new IllegalStateException("the lists are one, or one may not come in");
        }
        refuseWhenNodesAreFull();
        Atom made = new Fraction(nodeCount, above, below, rule < 0 ? -1 : (int) rule);
        above.owner = made;
        below.owner = made;
        return addNode(made);
    }

    public int fence(int left, int list, int right)
            throws NoSuchElementException, IllegalArgumentException, IllegalStateException, UnsupportedOperationException {
        Row inside = findList(list);
        if (inside == null) {
            throw new NoSuchElementException("no such list");
        }
        if (!isDelimiter(left) || !isDelimiter(right)) {
            throw new IllegalArgumentException("no such delimiter");
        }
        if (!mayComeInto(inside, open)) {
            throw new IllegalStateException("the list may not come in");
        }
        refuseWhenNodesAreFull();
        if (!isBalanced(left, right)) {
            return 0;
        }
        Atom made = new Fence(nodeCount, left, inside, right);
        inside.owner = made;
        return addNode(made) + 1;
    }

    public int matrix(int rows, int columns) throws UnsupportedOperationException {
        refuseWhenNodesAreFull();
        if (!isCellCount(rows) || !isCellCount(columns)) {
            return 0;
        }
        Row[] cells = lastFreeLists(rows * columns);
        if (cells == null || !mayAllComeIntoOpen(cells)) {
            return 0;
        }
        Atom made = new Matrix(nodeCount, rows, columns, cells);
        for (Row cell : cells) {
            if (cell != null) {
                cell.owner = made;
            }
        }
        return addNode(made) + 1;
    }

    public int style(int s, boolean cramped) throws IllegalArgumentException, UnsupportedOperationException {
        if (s < 0 || s >= STYLES) {
            throw new IllegalArgumentException("no such style");
        }
        refuseWhenNodesAreFull();
        return addNode(new StyleNode(nodeCount, s, cramped));
    }

    public int run(int list) throws NoSuchElementException {
        Row row = findList(list);
        if (row == null) {
            throw new NoSuchElementException("no such list");
        }
        page.count = 0;
        row.lay(page, DISPLAY, false, 0);
        page.keepSizes(row.box);
        return page.count;
    }

    public int item(int i, int what) throws IndexOutOfBoundsException {
        if (i == -1 && what >= 0 && what < Page.SIZES) {
            return page.sizeOfAll(what);
        }
        if (!page.has(i, what)) {
            throw new IndexOutOfBoundsException("no such item, or nothing such of it");
        }
        return page.get(i, what);
    }

    public int space(int a, int b) throws IllegalArgumentException {
        if (!isKind(a) || !isKind(b)) {
            throw new IllegalArgumentException("no such kind");
        }
        return unitsBetween(a, b, DISPLAY);
    }

    public int kind(int i) throws NoSuchElementException {
        Atom asked = findAtom(i);
        if (asked == null) {
            throw new NoSuchElementException("no such atom");
        }
        return asked.home == null ? asked.kind : asked.home.countedKind(asked);
    }

    public int split(int list, int i) throws NoSuchElementException, IndexOutOfBoundsException, UnsupportedOperationException {
        Row row = findList(list);
        if (row == null) {
            throw new NoSuchElementException("no such list");
        }
        Node relation = row.findRelation(i);
        if (relation == null) {
            throw new IndexOutOfBoundsException("the list has no such relation");
        }
        refuseWhenListsAreFull();
        Row tail = beginList();
        row.moveTail(relation, tail);
        if (open == row) {
            open = tail;
        }
        return tail.number;
    }

    private void refuseWhenNodesAreFull() {
        if (nodeCount >= MOST_NODES) {
            throw new UnsupportedOperationException("there are 120 nodes");
        }
    }

    private void refuseWhenListsAreFull() {
        if (listCount >= MOST_LISTS) {
            throw new UnsupportedOperationException("there are 30 lists");
        }
    }

    private Row beginList() {
        Row row = new Row(listCount);
        if (listCount < lists.length) {
            lists[listCount] = row;
            listCount++;
        }
        return row;
    }

    private int addNode(Node node) {
        if (nodeCount < nodes.length) {
            nodes[nodeCount] = node;
            nodeCount++;
            open.append(node);
        }
        return node.number;
    }

    private Row findList(int number) {
        return number >= 0 && number < listCount && number < lists.length ? lists[number] : null;
    }

    private Atom findAtom(int number) {
        Node node = number >= 0 && number < nodeCount && number < nodes.length ? nodes[number] : null;
        return node instanceof Atom found ? found : null;
    }

    private static boolean mayComeInto(Row added, Row home) {
        return added.isFree() && !added.holds(home);
    }

    private boolean mayAllComeIntoOpen(Row[] cells) {
        for (Row cell : cells) {
            if (cell == null || !mayComeInto(cell, open)) {
                return false;
            }
        }
        return true;
    }

    private Row[] lastFreeLists(int wanted) {
        if (wanted < 1 || wanted > MOST_LISTS) {
            return null;
        }
        Row[] found = new Row[wanted];
        int missing = wanted;
        for (int number = listCount - 1; number >= 0 && missing > 0; number--) {
            Row row = findList(number);
            if (row != null && row != open && row.isFree()) {
                missing--;
                found[missing] = row;
            }
        }
        return missing == 0 ? found : null;
    }

    private static boolean isKind(int number) {
        return number >= 0 && number < KINDS;
    }

    private static boolean isDelimiter(int number) {
        return number >= 0 && number <= LAST_DELIMITER;
    }

    private static boolean isCellCount(int number) {
        return number >= 1 && number <= MOST_CELLS_A_SIDE;
    }

    private static boolean isBalanced(int left, int right) {
        return left == right ? left != 0 : left == 0 || right == 0;
    }

    private static int unit(int style) {
        return style <= TEXT ? 10 : style == SCRIPT ? 7 : 5;
    }

    private static int axis(int style) {
        return 2 * unit(style);
    }

    private static int scriptStyle(int style) {
        return style <= TEXT ? SCRIPT : SMALL;
    }

    private static int fractionStyle(int style) {
        return style < SMALL ? style + 1 : SMALL;
    }

    private static int half(int length) {
        return Math.floorDiv(length, 2);
    }

    private static int unitsBetween(int a, int b, int style) {
        if (!isKind(a) || !isKind(b)) {
            return 0;
        }
        int told = SPACES[a * KINDS + b];
        if (told <= ALWAYS_THIN) {
            return told;
        }
        return style <= TEXT ? told - 1 : 0;
    }

    // One page is kept and filled anew by each run, so that runs make no
    // objects; it holds copies, so that later changes don't touch its items.
    private static final class Page {
        static final int SIZES = 3;

        static final int SIGN = 0;
        static final int RULE = 1;
        static final int DELIMITER = 2;

        private static final int WHAT = 0;
        private static final int X = 1;
        private static final int Y = 2;
        private static final int SIZE = 3;
        private static final int WIDTH = 4;
        private static final int FACE = 5;
        private static final int NODE = 6;
        private static final int SHORT = 7;
        private static final int FIELDS = 8;

        // A node makes one item at most, but a fence two; and each fence has
        // a list of its own, so there are fewer fences than lists.
        private static final int MOST_ITEMS = MOST_NODES + MOST_LISTS;

        private final int[] values = new int[MOST_ITEMS * FIELDS];
        private int width;
        private int height;
        private int depth;
        int count;

        boolean has(int item, int field) {
            return item >= 0 && item < count && item < MOST_ITEMS && field >= 0 && field < FIELDS;
        }

        int get(int item, int field) {
            return has(item, field) ? values[item * FIELDS + field] : 0;
        }

        void set(int item, int field, int value) {
            if (has(item, field)) {
                values[item * FIELDS + field] = value;
            }
        }

        int add(int what, int node, int face, int size, int wide) {
            if (count >= MOST_ITEMS) {
                return count;
            }
            int item = count;
            count++;
            set(item, WHAT, what);
            set(item, X, 0);
            set(item, Y, 0);
            set(item, SIZE, size);
            set(item, WIDTH, wide);
            set(item, FACE, face);
            set(item, NODE, node);
            set(item, SHORT, 0);
            return item;
        }

        void lift(int item, int y) {
            set(item, Y, y);
        }

        void grow(int item, int x, int step, boolean tooShort) {
            set(item, X, x);
            set(item, SIZE, step);
            set(item, SHORT, tooShort ? 1 : 0);
        }

        void move(Box box, int right, int up) {
            for (int item = box.from; item < box.to; item++) {
                if (has(item, Y)) {
                    values[item * FIELDS + X] += right;
                    values[item * FIELDS + Y] += up;
                }
            }
        }

        void keepSizes(Box box) {
            width = box.width;
            height = box.height;
            depth = box.depth;
        }

        int sizeOfAll(int which) {
            return which == 0 ? width : which == 1 ? height : depth;
        }
    }

    // Items are laid as if their box began at 0, since where it stands is known
    // only later: so a box remembers which items move with it.
    private static final class Box {
        int width;
        int height;
        int depth;
        int from;
        int to;

        void begin(Page page) {
            width = 0;
            height = 0;
            depth = 0;
            from = page.count;
            to = page.count;
        }

        void end(Page page) {
            to = page.count;
        }

        void cover(int top, int bottom) {
            height = Math.max(height, top);
            depth = Math.max(depth, bottom);
        }

        void put(Page page, Box part, int x, int line) {
            page.move(part, x, line);
            cover(line + part.height, part.depth - line);
        }
    }

    // Called Row, not List, since that is the library's name.
    private static final class Row {
        final int number;
        final Box box;
        Node first;
        Node last;
        Atom owner;

        Row(int number) {
            this.number = number;
            this.box = new Box();
        }

        boolean isFree() {
            return number != 0 && owner == null;
        }

        boolean holds(Row inner) {
            Row at = inner;
            for (int steps = 0; at != null && steps < MOST_LISTS; steps++) {
                if (at == this) {
                    return true;
                }
                Atom around = at.owner;
                at = around == null ? null : around.home;
            }
            return false;
        }

        void append(Node node) {
            if (last == null) {
                first = node;
            } else {
                last.next = node;
            }
            last = node;
            node.home = this;
        }

        Node findRelation(int wanted) {
            int seen = 0;
            for (Node node = first; node != null; node = node.next) {
                if (node instanceof Atom atom && atom.kind == RELATION) {
                    if (seen == wanted) {
                        return node;
                    }
                    seen++;
                }
            }
            return null;
        }

        void moveTail(Node from, Row tail) {
            Node before = null;
            for (Node node = first; node != null && node != from; node = node.next) {
                before = node;
            }
            tail.first = from;
            tail.last = last;
            last = before;
            if (before == null) {
                first = null;
            } else {
                before.next = null;
            }
            for (Node node = from; node != null; node = node.next) {
                node.home = tail;
            }
        }

        int countedKind(Atom asked) {
            int counted = NONE_BEFORE;
            for (Node node = first; node != null; node = node.next) {
                if (node instanceof Atom atom) {
                    counted = atom.kindBehind(counted);
                }
                if (node == asked) {
                    return counted;
                }
            }
            return asked.kind;
        }

        void lay(Page page, int outerStyle, boolean outerCramped, int level) {
            box.begin(page);
            if (level >= MOST_LISTS) {
                return;
            }
            int style = outerStyle;
            boolean cramped = outerCramped;
            int before = NONE_BEFORE;
            for (Node node = first; node != null; node = node.next) {
                if (node instanceof StyleNode change) {
                    style = change.style;
                    cramped = change.cramped;
                } else if (node instanceof Atom atom) {
                    int counted = atom.kindBehind(before);
                    int x = box.width + unit(style) * unitsBetween(before, counted, style);
                    atom.lay(page, style, cramped, level);
                    box.put(page, atom.box, x, 0);
                    box.width = x + atom.box.width;
                    before = counted;
                }
            }
            box.end(page);
        }
    }

    private abstract static class Node {
        final int number;
        Row home;
        Node next;

        Node(int number) {
            this.number = number;
        }
    }

    private static final class StyleNode extends Node {
        final int style;
        final boolean cramped;

        StyleNode(int number, int style, boolean cramped) {
            super(number);
            this.style = style;
            this.cramped = cramped;
        }
    }

    // The core is the nucleus alone: scripts are placed by its sizes, the list
    // goes on by those of the whole box.
    private abstract static class Atom extends Node {
        final int kind;
        final Box core;
        final Box box;
        Row upper;
        Row lower;

        Atom(int number, int kind) {
            super(number);
            this.kind = kind;
            this.core = new Box();
            this.box = new Box();
        }

        abstract void layCore(Page page, int style, boolean cramped, int level);

        final int scriptCount() {
            return (upper == null ? 0 : 1) + (lower == null ? 0 : 1);
        }

        final int kindBehind(int before) {
            if (kind != BINARY) {
                return kind;
            }
            boolean bindsBefore = before == ORDINARY || before == CLOSING || before == INNER;
            return bindsBefore && bindsNext() ? BINARY : ORDINARY;
        }

        private boolean bindsNext() {
            for (Node node = next; node != null; node = node.next) {
                if (node instanceof Atom atom) {
                    return atom.kind != RELATION && atom.kind != CLOSING && atom.kind != POINT;
                }
            }
            return false;
        }

        final void lay(Page page, int style, boolean cramped, int level) {
            box.begin(page);
            core.begin(page);
            layCore(page, style, cramped, level);
            core.end(page);
            if (upper != null) {
                upper.lay(page, scriptStyle(style), cramped, level + 1);
            }
            if (lower != null) {
                lower.lay(page, scriptStyle(style), true, level + 1);
            }
            if (kind == OPERATOR && style == DISPLAY) {
                putLimits(page, unit(style));
            } else {
                putAtSide(page, unit(style), cramped);
            }
            box.end(page);
        }

        private void putLimits(Page page, int z) {
            box.width = Math.max(core.width, widestScript());
            box.put(page, core, half(box.width - core.width), 0);
            if (upper != null) {
                Box part = upper.box;
                box.put(page, part, half(box.width - part.width), core.height + z + part.depth);
            }
            if (lower != null) {
                Box part = lower.box;
                box.put(page, part, half(box.width - part.width), -(core.depth + z + part.height));
            }
        }

        private void putAtSide(Page page, int z, boolean cramped) {
            box.put(page, core, 0, 0);
            box.width = core.width;
            if (scriptCount() > 0) {
                box.width += widestScript() + half(z);
            }
            if (upper != null) {
                box.put(page, upper.box, core.width, upperLine(z, cramped));
            }
            if (lower != null) {
                box.put(page, lower.box, core.width, -lowerDrop(z, cramped));
            }
        }

        private int widestScript() {
            int above = upper == null ? 0 : upper.box.width;
            int below = lower == null ? 0 : lower.box.width;
            return Math.max(above, below);
        }

        private int upperLine(int z, boolean cramped) {
            int least = cramped ? 3 * z : 4 * z;
            int depth = upper == null ? 0 : upper.box.depth;
            return Math.max(core.height - 2 * z, Math.max(least, depth + z));
        }

        private int lowerDrop(int z, boolean cramped) {
            int height = lower == null ? 0 : lower.box.height;
            int drop = Math.max(core.depth + z, Math.max(2 * z, height - 4 * z));
            if (upper == null) {
                return drop;
            }
            int between = upperLine(z, cramped) - upper.box.depth - (height - drop);
            return drop + Math.max(0, z - between);
        }
    }

    private static final class Sign extends Atom {
        private final int sign;

        Sign(int number, int kind, int sign) {
            super(number, kind);
            this.sign = sign;
        }

        void layCore(Page page, int style, boolean cramped, int level) {
            int size = kind == OPERATOR && style == DISPLAY ? BIG_OPERATOR : unit(style);
            core.width = size * (4 + sign % 5);
            core.cover(size * (5 + sign % 3), sign % 4 == 3 ? 2 * size : 0);
            page.add(Page.SIGN, number, sign, size, core.width);
        }
    }

    private static final class Fraction extends Atom {
        private final Row over;
        private final Row under;
        private final int rule;

        Fraction(int number, Row over, Row under, int rule) {
            super(number, INNER);
            this.over = over;
            this.under = under;
            this.rule = rule;
        }

        void layCore(Page page, int style, boolean cramped, int level) {
            over.lay(page, fractionStyle(style), cramped, level + 1);
            under.lay(page, fractionStyle(style), true, level + 1);
            int z = unit(style);
            int thick = rule < 0 ? half(z) : rule;
            int gap = style == DISPLAY ? 3 * z : z;
            int ruleTop = axis(style) + half(thick);
            int ruleBottom = ruleTop - thick;
            core.width = Math.max(over.box.width, under.box.width) + z;
            putMidst(page, over.box, ruleTop + gap + over.box.depth);
            putMidst(page, under.box, ruleBottom - gap - under.box.height);
            if (thick > 0) {
                page.lift(page.add(Page.RULE, number, 0, thick, core.width), ruleBottom);
                core.cover(ruleTop, -ruleBottom);
            }
        }

        private void putMidst(Page page, Box part, int line) {
            core.put(page, part, half(core.width - part.width), line);
        }
    }

    private static final class Fence extends Atom {
        private final int left;
        private final Row inside;
        private final int right;

        Fence(int number, int left, Row inside, int right) {
            super(number, INNER);
            this.left = left;
            this.inside = inside;
            this.right = right;
        }

        void layCore(Page page, int style, boolean cramped, int level) {
            // The left item comes before those of the list, whose height
            // tells its step: so it is added first and grows afterwards.
            int leftItem = page.count;
            addDelimiter(page, left, style);
            inside.lay(page, style, cramped, level + 1);
            int rightItem = page.count;
            addDelimiter(page, right, style);
            int insideX = delimiterWidth(left, style);
            int rightX = insideX + inside.box.width;
            core.put(page, inside.box, insideX, 0);
            core.width = rightX + delimiterWidth(right, style);
            int step = firstStep(style);
            if (left != 0) {
                growDelimiter(page, leftItem, 0, step, style);
            }
            if (right != 0) {
                growDelimiter(page, rightItem, rightX, step, style);
            }
        }

        private void addDelimiter(Page page, int delimiter, int style) {
            if (delimiter != 0) {
                page.add(Page.DELIMITER, number, delimiter, 0, delimiterWidth(delimiter, style));
            }
        }

        private void growDelimiter(Page page, int item, int x, int step, int style) {
            int taken = Math.min(step, LAST_STEP);
            int whole = stepHeight(taken, style);
            int top = axis(style) + half(whole);
            page.grow(item, x, taken, step > LAST_STEP);
            core.cover(top, whole - top);
        }

        // Where no step covers the list the answer is one behind the last, so
        // that the caller can tell a short fence from one that just fits.
        private int firstStep(int style) {
            int above = inside.box.height - axis(style);
            int below = inside.box.depth + axis(style);
            int needed = 2 * Math.max(above, below);
            for (int step = 0; step <= LAST_STEP; step++) {
                if (10 * stepHeight(step, style) >= 9 * needed) {
                    return step;
                }
            }
            return LAST_STEP + 1;
        }

        private static int stepHeight(int step, int style) {
            return unit(style) * (6 + 4 * step);
        }

        private static int delimiterWidth(int delimiter, int style) {
            return delimiter == 0 ? half(unit(style)) : unit(style) * (2 + delimiter % 3);
        }
    }

    private static final class Matrix extends Atom {
        private final int rows;
        private final int columns;
        private final Row[] cells;

        Matrix(int number, int rows, int columns, Row[] cells) {
            super(number, INNER);
            this.rows = rows;
            this.columns = columns;
            this.cells = cells;
        }

        void layCore(Page page, int style, boolean cramped, int level) {
            for (Row cell : cells) {
                if (cell != null) {
                    cell.lay(page, style == DISPLAY ? TEXT : style, false, level + 1);
                }
            }
            int z = unit(style);
            int whole = wholeHeight(z);
            int line = axis(style) - half(whole) + whole;
            for (int row = 0; row < rows; row++) {
                line -= rowHeight(row);
                putRow(page, row, line, z);
                line -= rowDepth(row) + 2 * z;
            }
        }

        private void putRow(Page page, int row, int line, int z) {
            int x = 0;
            for (int column = 0; column < columns; column++) {
                int wide = columnWidth(column);
                Row cell = cellAt(row, column);
                if (cell != null) {
                    core.put(page, cell.box, x + half(wide - cell.box.width), line);
                }
                core.width = x + wide;
                x = core.width + 3 * z;
            }
        }

        private Row cellAt(int row, int column) {
            int index = row * columns + column;
            return index >= 0 && index < cells.length ? cells[index] : null;
        }

        private int columnWidth(int column) {
            int widest = 0;
            for (int row = 0; row < rows; row++) {
                Row cell = cellAt(row, column);
                widest = Math.max(widest, cell == null ? 0 : cell.box.width);
            }
            return widest;
        }

        private int rowHeight(int row) {
            int highest = 0;
            for (int column = 0; column < columns; column++) {
                Row cell = cellAt(row, column);
                highest = Math.max(highest, cell == null ? 0 : cell.box.height);
            }
            return highest;
        }

        private int rowDepth(int row) {
            int deepest = 0;
            for (int column = 0; column < columns; column++) {
                Row cell = cellAt(row, column);
                deepest = Math.max(deepest, cell == null ? 0 : cell.box.depth);
            }
            return deepest;
        }

        private int wholeHeight(int z) {
            int whole = 2 * z * (rows - 1);
            for (int row = 0; row < rows; row++) {
                whole += rowHeight(row) + rowDepth(row);
            }
            return whole;
        }
    }
}
