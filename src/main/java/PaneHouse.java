import java.util.Arrays;

/** Panes in a layout of splits on one screen; ../shared/DOC.md says what each call does. */
public final class PaneHouse {
    public static final int NONE = -1;

    private static final int PANES = 8;
    private static final int PREFIX = 2;
    private static final int MOST_COPIED = 400;
    private static final int NEW_LINE = 10;

    /* A cell is one number: its attribute times STEP, and its character. */
    private static final int STEP = 128;
    private static final int BLANK = 32;

    private final int width;
    private final int height;
    private final Pane[] panes = new Pane[PANES];
    private final Layout layout;
    private final Outer outer;
    private final int[] picture;
    private final int[] line;
    private final int[] clip = new int[MOST_COPIED];
    private int clipSize;
    private int focused;
    private boolean prefixed;

    public PaneHouse(int width, int height) {
        this.width = nearest(width, 8, 40);
        this.height = nearest(height, 4, 16);
        for (int i = 0; i < PANES; i++) {
            panes[i] = new Pane(this.width, this.height);
        }
        layout = new Layout(this.width, this.height);
        outer = new Outer(this.width, this.height);
        picture = new int[this.width * this.height];
        line = new int[this.width];
        fitPanes();
        panes[0].begin();
    }

    public void feed(int pane, long w, int n) throws IndexOutOfBoundsException, IllegalArgumentException {
        checkPane(pane);
        if (n < 1 || n > 8) {
            throw new IllegalArgumentException("n is not 1 .. 8");
        }
        for (int i = 0; i < n; i++) {
            panes[pane].reader.take((int) (w >> (8 * i)) & 255);
        }
    }

    public int key(int k) throws IllegalArgumentException {
        if (k < 0 || k > 255) {
            throw new IllegalArgumentException("a key is 0 .. 255");
        }
        if (prefixed) {
            prefixed = false;
            command(k);
        } else if (k == PREFIX) {
            prefixed = true;
        } else {
            panes[focused].press(k);
        }
        return focused;
    }

    public int split(int pane, boolean down) throws IndexOutOfBoundsException, IllegalStateException {
        checkPane(pane);
        int added = divide(pane, down);
        if (added == NONE) {
            throw new IllegalStateException("there are 8 panes, or its area is too small");
        }
        return added;
    }

    public int close(int pane) throws IndexOutOfBoundsException, IllegalStateException {
        checkPane(pane);
        if (!remove(pane)) {
            throw new IllegalStateException("it is the only pane");
        }
        return focused;
    }

    public void focus(int pane) throws IndexOutOfBoundsException {
        checkPane(pane);
        focused = pane;
    }

    public int copy(int pane, boolean on, int up) throws IndexOutOfBoundsException {
        checkPane(pane);
        panes[pane].setCopyMode(on);
        panes[pane].look(up);
        return panes[pane].offsetNow();
    }

    public int select(int pane, int row, int column, int toRow, int toColumn)
            throws IndexOutOfBoundsException, IllegalArgumentException {
        checkPane(pane);
        checkPlace(pane, row, column);
        checkPlace(pane, toRow, toColumn);
        if (toRow < row || (toRow == row && toColumn < column)) {
            throw new IllegalArgumentException("the second place is before the first one");
        }
        clipSize = 0;
        int last = panes[pane].screen.columns - 1;
        for (int r = row; r <= toRow; r++) {
            if (r > row) {
                clipByte(NEW_LINE);
            }
            panes[pane].viewRow(r, line, 0);
            clipLine(r == row ? column : 0, r == toRow ? toColumn : last);
        }
        return clipSize;
    }

    public int redraw() {
        drawPicture();
        outer.begin();
        for (int row = 0; row < height; row++) {
            for (int column = 0; column < width; column++) {
                outer.show(column, row, picture[row * width + column]);
            }
        }
        outer.end(cursorColumn(), cursorRow(), panes[focused].seesCursor());
        return outer.size;
    }

    public int out(int i) throws IndexOutOfBoundsException {
        if (i < 0 || i >= outer.size) {
            throw new IndexOutOfBoundsException("no such byte of OUT");
        }
        return outer.bytes[i];
    }

    public int cell(int column, int row, boolean attribute) throws IndexOutOfBoundsException {
        if (column < 0 || column >= width || row < 0 || row >= height) {
            throw new IndexOutOfBoundsException("no such cell");
        }
        drawPicture();
        int found = picture[row * width + column];
        return attribute ? found / STEP : found % STEP;
    }

    public int about(int pane, int what) throws IndexOutOfBoundsException, IllegalArgumentException {
        checkPane(pane);
        Part area = layout.leaves[pane];
        Screen screen = panes[pane].screen;
        return switch (what) {
            case 0 -> area == null ? 0 : area.column;
            case 1 -> area == null ? 0 : area.row;
            case 2 -> screen.columns;
            case 3 -> screen.rows;
            case 4 -> screen.column;
            case 5 -> screen.row;
            case 6 -> screen.wrapWaits ? 1 : 0;
            case 7 -> screen.history.size;
            case 8 -> screen.pen;
            case 9 -> panes[pane].copyMode ? 1 : 0;
            case 10 -> panes[pane].typed.total;
            default -> throw new IllegalArgumentException("what is not 0 .. 10");
        };
    }

    public int input(int pane, int i) throws IndexOutOfBoundsException {
        checkPane(pane);
        Typed typed = panes[pane].typed;
        if (i < 0 || i >= typed.told()) {
            throw new IndexOutOfBoundsException("no such byte of the INPUT");
        }
        return typed.at(i);
    }

    public int copied(int i) throws IndexOutOfBoundsException {
        if (i < 0 || i >= clipSize) {
            throw new IndexOutOfBoundsException("no such byte of what is COPIED");
        }
        return clip[i];
    }

    public int count(int what) throws IllegalArgumentException {
        return switch (what) {
            case 0 -> layout.panes();
            case 1 -> focused;
            case 2 -> cursorColumn();
            case 3 -> cursorRow();
            case 4 -> panes[focused].seesCursor() ? 1 : 0;
            case 5 -> clipSize;
            default -> throw new IllegalArgumentException("what is not 0 .. 5");
        };
    }

    private static int nearest(int value, int least, int most) {
        return Math.max(least, Math.min(most, value));
    }

    private void checkPane(int pane) {
        if (!layout.has(pane)) {
            throw new IndexOutOfBoundsException("no such pane");
        }
    }

    private void checkPlace(int pane, int row, int column) {
        Screen screen = panes[pane].screen;
        if (row < 0 || row >= screen.rows || column < 0 || column >= screen.columns) {
            throw new IndexOutOfBoundsException("no such place in the pane");
        }
    }

    private void command(int k) {
        switch (k) {
            case '"' -> divide(focused, true);
            case '%' -> divide(focused, false);
            case 'o' -> focused = layout.paneBehind(focused);
            case 'x' -> remove(focused);
            case '[' -> panes[focused].setCopyMode(!panes[focused].copyMode);
            case ']' -> paste();
            case PREFIX -> panes[focused].typed.add(PREFIX);
            default -> { }
        }
    }

    private int divide(int pane, boolean down) {
        int added = layout.divide(pane, down);
        if (added != NONE) {
            fitPanes();
            panes[added].begin();
            focused = added;
        }
        return added;
    }

    private boolean remove(int pane) {
        boolean removed = layout.remove(pane);
        if (removed) {
            fitPanes();
            if (focused == pane) {
                focused = layout.least(true);
            }
        }
        return removed;
    }

    private void fitPanes() {
        for (int i = 0; i < PANES; i++) {
            Part area = layout.leaves[i];
            if (area != null) {
                panes[i].screen.resize(area.columns, area.rows);
            }
        }
    }

    private void paste() {
        for (int i = 0; i < clipSize; i++) {
            panes[focused].typed.add(clip[i]);
        }
    }

    private void clipLine(int from, int to) {
        int end = to;
        while (end >= from && line[end] % STEP == BLANK) {
            end--;
        }
        for (int i = from; i <= end; i++) {
            clipByte(line[i] % STEP);
        }
    }

    private void clipByte(int b) {
        if (clipSize < MOST_COPIED) {
            clip[clipSize] = b;
            clipSize++;
        }
    }

    private void drawPicture() {
        layout.drawBorders(picture, width);
        for (int i = 0; i < PANES; i++) {
            Part area = layout.leaves[i];
            if (area != null) {
                for (int row = 0; row < area.rows; row++) {
                    panes[i].viewRow(row, picture, (area.row + row) * width + area.column);
                }
            }
        }
    }

    private int cursorColumn() {
        Part area = layout.leaves[focused];
        return (area == null ? 0 : area.column) + panes[focused].screen.column;
    }

    private int cursorRow() {
        Part area = layout.leaves[focused];
        return (area == null ? 0 : area.row) + panes[focused].screen.row;
    }

    /** A part of the layout with its area: one pane's, or a split with two parts and a border between them. */
    private static final class Part {
        private int column;
        private int row;
        private int columns;
        private int rows;
        private boolean down;
        private Part first;
        private Part second;
        private Part above;

        Part(Part above) {
            this.above = above;
        }

        int length(boolean downwards) {
            return downwards ? rows : columns;
        }

        boolean isSplit() {
            return first != null && second != null;
        }

        void drawBorder(int[] picture, int width) {
            if (!isSplit()) {
                return;
            }
            int step = down ? 1 : width;
            int length = down ? columns : rows;
            int at = down ? (row + first.rows) * width + column : row * width + column + first.columns;
            for (int i = 0; i < length && at >= 0 && at < picture.length; i++) {
                picture[at] = down ? '-' : '|';
                at += step;
            }
        }
    }

    /** The tree of splits, and which part each pane has. */
    private static final class Layout {
        private static final int DEEPEST = PANES;
        private final Part[] leaves = new Part[PANES];
        private Part root;

        Layout(int width, int height) {
            root = new Part(null);
            root.columns = width;
            root.rows = height;
            leaves[0] = root;
        }

        boolean has(int pane) {
            return pane >= 0 && pane < PANES && leaves[pane] != null;
        }

        int panes() {
            int found = 0;
            for (int i = 0; i < PANES; i++) {
                found += has(i) ? 1 : 0;
            }
            return found;
        }

        /** The least number that a pane has, or the least one that none has; NONE if there is none. */
        int least(boolean taken) {
            for (int i = 0; i < PANES; i++) {
                if (has(i) == taken) {
                    return i;
                }
            }
            return NONE;
        }

        /** The next greater number of a pane, from the last one to the first. */
        int paneBehind(int pane) {
            for (int i = 1; i < PANES; i++) {
                int next = (pane + i) % PANES;
                if (has(next)) {
                    return next;
                }
            }
            return pane;
        }

        /** The new pane, or NONE if there can't be one. */
        int divide(int pane, boolean down) {
            int added = least(false);
            if (added == NONE || !has(pane) || leaves[pane].length(down) <= 2) {
                return NONE;
            }
            Part old = leaves[pane];
            Part split = new Part(old.above);
            exchange(old, split);
            old.above = split;
            split.first = old;
            split.second = new Part(split);
            split.down = down;
            split.column = old.column;
            split.row = old.row;
            split.columns = old.columns;
            split.rows = old.rows;
            leaves[added] = split.second;
            share(split, (split.length(down) - 1) / 2, 0);
            return added;
        }

        /** False if the pane is the only one. */
        boolean remove(int pane) {
            Part leaf = has(pane) ? leaves[pane] : null;
            Part split = leaf == null ? null : leaf.above;
            if (split == null || !split.isSplit()) {
                return false;
            }
            Part other = split.first == leaf ? split.second : split.first;
            exchange(split, other);
            leaves[pane] = null;
            place(other, split.column, split.row, split.columns, split.rows, 0);
            return true;
        }

        void drawBorders(int[] picture, int width) {
            drawBorders(root, picture, width, 0);
        }

        /** Puts another part where one stood in the tree. */
        private void exchange(Part old, Part other) {
            Part above = old.above;
            other.above = above;
            if (above == null) {
                root = other;
            } else if (above.first == old) {
                above.first = other;
            } else {
                above.second = other;
            }
        }

        private static void place(Part part, int column, int row, int columns, int rows, int depth) {
            int before = part.length(part.down);
            part.column = column;
            part.row = row;
            part.columns = columns;
            part.rows = rows;
            if (part.isSplit()) {
                int now = part.length(part.down);
                int size = part.first.length(part.down);
                int kept = before > 1 ? (now - 1) * size / (before - 1) : 1;
                share(part, Math.max(1, Math.min(now - 2, kept)), depth + 1);
            }
        }

        /** Gives the first part of a split so many cells, and the second one what the border leaves. */
        private static void share(Part split, int size, int depth) {
            if (!split.isSplit() || depth > DEEPEST) {
                return;
            }
            int rest = split.length(split.down) - 1 - size;
            int behind = size + 1;
            if (split.down) {
                place(split.first, split.column, split.row, split.columns, size, depth);
                place(split.second, split.column, split.row + behind, split.columns, rest, depth);
            } else {
                place(split.first, split.column, split.row, size, split.rows, depth);
                place(split.second, split.column + behind, split.row, rest, split.rows, depth);
            }
        }

        private static void drawBorders(Part part, int[] picture, int width, int depth) {
            if (part.isSplit() && depth <= DEEPEST) {
                part.drawBorder(picture, width);
                drawBorders(part.first, picture, width, depth + 1);
                drawBorders(part.second, picture, width, depth + 1);
            }
        }
    }

    /** What one pane has: its screen, its INPUT and its COPY mode. */
    private static final class Pane {
        private final Screen screen;
        private final Reader reader;
        private final Typed typed = new Typed();
        private boolean copyMode;
        private int offset;

        Pane(int width, int height) {
            screen = new Screen(width, height);
            reader = new Reader(screen);
        }

        /** A pane's number may have been another pane's before: nothing of that one stays but the size. */
        void begin() {
            screen.reset();
            reader.reset();
            typed.total = 0;
            setCopyMode(false);
        }

        void press(int k) {
            if (!copyMode) {
                typed.add(k);
            } else if (k == 'k') {
                look(1);
            } else if (k == 'j') {
                look(-1);
            } else if (k == 'q') {
                setCopyMode(false);
            }
        }

        void setCopyMode(boolean on) {
            if (on != copyMode) {
                copyMode = on;
                offset = 0;
            }
        }

        /* The HISTORY may have become shorter since the offset was set, and may grow again. */
        int offsetNow() {
            return Math.min(offset, screen.history.size);
        }

        void look(int up) {
            if (copyMode) {
                int now = offsetNow();
                int far = screen.history.size;
                offset = now + nearest(up, -now, far - now);
            }
        }

        boolean seesCursor() {
            return screen.cursorSeen && !copyMode;
        }

        /** Puts a row as the pane shows it into the target. */
        void viewRow(int row, int[] target, int at) {
            int above = offsetNow();
            if (row < above) {
                screen.history.give(screen.history.size - above + row, screen.columns, target, at);
            } else {
                screen.shown().give(row - above, screen.columns, target, at);
            }
        }
    }

    /** A pane's INPUT: how much there ever was, and the latest of it. */
    private static final class Typed {
        private static final int TOLD = 64;
        private final int[] latest = new int[TOLD];
        private int total;

        void add(int b) {
            latest[total & (TOLD - 1)] = b;
            total++;
        }

        int told() {
            return Math.min(total, TOLD);
        }

        int at(int i) {
            return latest[(total - told() + i) & (TOLD - 1)];
        }
    }

    /** The rows that have gone away, the oldest one first, each as long as it was. */
    private static final class History {
        private static final int MOST = 30;
        private final int width;
        private final int[] cells;
        private final int[] lengths = new int[MOST];
        private int oldest;
        private int size;

        History(int width) {
            this.width = width;
            cells = new int[MOST * width];
        }

        void forget() {
            oldest = 0;
            size = 0;
        }

        void add(Grid grid, int row, int columns) {
            int slot = (oldest + size) % MOST;
            if (size < MOST) {
                size++;
            } else {
                oldest = (oldest + 1) % MOST;
            }
            lengths[slot] = columns;
            grid.give(row, columns, cells, slot * width);
        }

        void give(int index, int columns, int[] target, int at) {
            if (index < 0 || index >= size || at < 0 || columns < 0 || at + columns > target.length) {
                return;
            }
            int slot = (oldest + index) % MOST;
            int kept = Math.min(columns, lengths[slot]);
            System.arraycopy(cells, slot * width, target, at, kept);
            Arrays.fill(target, at + kept, at + columns, BLANK);
        }
    }

    /** Cells in rows; those that lie outside a pane's area stay blank with attribute 0. */
    private static final class Grid {
        private final int width;
        private final int height;
        private final int[] cells;

        Grid(int width, int height) {
            this.width = width;
            this.height = height;
            cells = new int[width * height];
        }

        /** Keeps the cells from the upper left; the others become blank. */
        void keep(int columns, int rows) {
            for (int row = 0; row < height; row++) {
                fill(row, row < rows ? columns : 0, width, BLANK);
            }
        }

        void set(int column, int row, int value) {
            if (column >= 0 && column < width && row >= 0 && row < height) {
                cells[row * width + column] = value;
            }
        }

        /** The cells from one column up to another one, which is not with them. */
        void fill(int row, int from, int to, int value) {
            if (row >= 0 && row < height && from >= 0 && from < to && to <= width) {
                Arrays.fill(cells, row * width + from, row * width + to, value);
            }
        }

        void give(int row, int columns, int[] target, int at) {
            if (row >= 0 && row < height && columns >= 0 && columns <= width
                    && at >= 0 && at + columns <= target.length) {
                System.arraycopy(cells, row * width, target, at, columns);
            }
        }

        void moveRow(int from, int to) {
            if (from >= 0 && from < height && to >= 0 && to < height) {
                System.arraycopy(cells, from * width, cells, to * width, width);
            }
        }

        void moveCells(int row, int from, int to, int n) {
            int most = width - Math.max(from, to);
            if (row >= 0 && row < height && from >= 0 && to >= 0 && n >= 0 && n <= most) {
                System.arraycopy(cells, row * width + from, cells, row * width + to, n);
            }
        }
    }

    /** What a pane's bytes draw on, and how they draw. */
    private static final class Screen {
        private final Grid main;
        private final Grid other;
        private final History history;
        private int columns;
        private int rows;
        private int column;
        private int row;
        private boolean wrapWaits;
        private int pen;
        private int savedColumn;
        private int savedRow;
        private int savedPen;
        private int top;
        private int bottom;
        private boolean insertMode;
        private boolean wrapMode;
        private boolean cursorSeen;
        private boolean otherShown;

        Screen(int width, int height) {
            main = new Grid(width, height);
            other = new Grid(width, height);
            history = new History(width);
        }

        Grid shown() {
            return otherShown ? other : main;
        }

        void reset() {
            main.keep(0, 0);
            history.forget();
            column = 0;
            row = 0;
            wrapWaits = false;
            pen = 0;
            savePlace();
            top = 0;
            bottom = rows - 1;
            insertMode = false;
            wrapMode = true;
            cursorSeen = true;
            otherShown = false;
        }

        void resize(int newColumns, int newRows) {
            if (newColumns == columns && newRows == rows) {
                return;
            }
            columns = newColumns;
            rows = newRows;
            main.keep(columns, rows);
            other.keep(columns, rows);
            moveTo(column, row);
            savedColumn = nearest(savedColumn, 0, columns - 1);
            savedRow = nearest(savedRow, 0, rows - 1);
            top = 0;
            bottom = rows - 1;
        }

        void write(int character) {
            if (wrapWaits) {
                column = 0;
                goDown();
            }
            if (insertMode) {
                shown().moveCells(row, column, column + 1, columns - 1 - column);
            }
            shown().set(column, row, pen * STEP + character);
            if (column < columns - 1) {
                column++;
            } else {
                wrapWaits = wrapMode;
            }
        }

        void moveTo(int toColumn, int toRow) {
            column = nearest(toColumn, 0, columns - 1);
            row = nearest(toRow, 0, rows - 1);
            wrapWaits = false;
        }

        void goToTab() {
            moveTo((column / 8 + 1) * 8, row);
        }

        void goDown() {
            if (row == bottom) {
                scrollUp(1);
            } else {
                moveTo(column, row + 1);
            }
        }

        void goUp() {
            if (row == top) {
                scrollDown(1);
            } else {
                moveTo(column, row - 1);
            }
        }

        void savePlace() {
            savedColumn = column;
            savedRow = row;
            savedPen = pen;
        }

        void takePlace() {
            moveTo(savedColumn, savedRow);
            pen = savedPen;
        }

        void scrollUp(int n) {
            wrapWaits = false;
            if (top == 0 && !otherShown) {
                int gone = Math.min(n, bottom + 1);
                for (int i = 0; i < gone; i++) {
                    history.add(main, i, columns);
                }
            }
            raiseRows(top, n);
        }

        void scrollDown(int n) {
            wrapWaits = false;
            lowerRows(top, n);
        }

        void insertRows(int n) {
            if (row >= top && row <= bottom) {
                lowerRows(row, n);
                column = 0;
            }
        }

        void deleteRows(int n) {
            if (row >= top && row <= bottom) {
                raiseRows(row, n);
                column = 0;
            }
        }

        /** Rows from one on to the REGION's last one go n up. */
        private void raiseRows(int from, int n) {
            Grid grid = shown();
            for (int r = from; r <= bottom; r++) {
                if (r + n <= bottom) {
                    grid.moveRow(r + n, r);
                } else {
                    grid.fill(r, 0, columns, blank());
                }
            }
        }

        /** Rows from one on to the REGION's last one go n down. */
        private void lowerRows(int from, int n) {
            Grid grid = shown();
            for (int r = bottom; r >= from; r--) {
                if (r - n >= from) {
                    grid.moveRow(r - n, r);
                } else {
                    grid.fill(r, 0, columns, blank());
                }
            }
        }

        void insertCells(int n) {
            int by = Math.min(n, columns - column);
            shown().moveCells(row, column, column + by, columns - column - by);
            shown().fill(row, column, column + by, blank());
        }

        void deleteCells(int n) {
            int by = Math.min(n, columns - column);
            shown().moveCells(row, column + by, column, columns - column - by);
            shown().fill(row, columns - by, columns, blank());
        }

        void eraseCells(int n) {
            shown().fill(row, column, Math.min(columns, column + n), blank());
        }

        void eraseInRow(int how) {
            if (how >= 0 && how <= 2) {
                int from = how == 0 ? column : 0;
                int to = how == 1 ? column + 1 : columns;
                shown().fill(row, from, to, blank());
            }
        }

        void erase(int how) {
            eraseInRow(how);
            for (int r = 0; r < rows; r++) {
                boolean meant = (how == 0 && r > row) || (how == 1 && r < row) || how == 2;
                if (meant) {
                    shown().fill(r, 0, columns, blank());
                }
            }
        }

        /** The REGION from a row to another one, counted from 1 on. */
        void setRegion(int from, int to) {
            int last = to == 0 ? rows : Math.min(to, rows);
            if (last > from) {
                top = from - 1;
                bottom = last - 1;
                moveTo(0, 0);
            }
        }

        void showOther(boolean on) {
            if (on && !otherShown) {
                other.keep(0, 0);
            }
            otherShown = on;
        }

        private int blank() {
            return pen * STEP + BLANK;
        }
    }

    /** Takes a pane's bytes, and does on its screen what they say. */
    private static final class Reader {
        private static final int PLAIN = 0;
        private static final int BEGUN = 1;
        private static final int OPENED = 2;
        private static final int LONGER = 3;
        private static final int NUMBERS = 4;
        private static final int GREATEST = 999;

        private final Screen screen;
        private final int[] numbers = new int[NUMBERS];
        private int ended;
        private boolean digits;
        private boolean asked;
        private int state;

        Reader(Screen screen) {
            this.screen = screen;
        }

        void reset() {
            state = PLAIN;
        }

        void take(int b) {
            switch (b) {
                case 8 -> screen.moveTo(screen.column - 1, screen.row);
                case 9 -> screen.goToTab();
                case 10 -> screen.goDown();
                case 13 -> screen.moveTo(0, screen.row);
                case 27 -> state = BEGUN;
                default -> {
                    if (state == OPENED) {
                        /* At once: a byte that the sequence takes first, even one that does nothing, leaves no room
                           for the ?. The bytes above act by themselves, and it goes on as it was. */
                        asked = b == '?';
                        state = LONGER;
                    }
                    if (state == LONGER) {
                        takeLonger(b);
                    } else if (state == BEGUN) {
                        takeShort(b);
                    } else if (b >= 32 && b <= 126) {
                        screen.write(b);
                    }
                }
            }
        }

        private void takeShort(int b) {
            state = PLAIN;
            switch (b) {
                case '7' -> screen.savePlace();
                case '8' -> screen.takePlace();
                case 'D' -> screen.goDown();
                case 'M' -> screen.goUp();
                case 'c' -> screen.reset();
                case '[' -> beginLonger();
                default -> { }
            }
        }

        private void beginLonger() {
            state = OPENED;
            Arrays.fill(numbers, 0);
            ended = 0;
            digits = false;
        }

        private void takeLonger(int b) {
            if (b >= '0' && b <= '9') {
                takeDigit(b - '0');
            } else if (b == ';') {
                ended = Math.min(NUMBERS, ended + 1);
                digits = false;
            } else if (b >= 64 && b <= 126) {
                state = PLAIN;
                endWait(b);
                if (asked) {
                    doAsked(b);
                } else {
                    doLonger(b);
                }
            }
        }

        /* Whatever the sequence does: even if that is nothing, as with a ? or outside the REGION. */
        private void endWait(int b) {
            switch (b) {
                case 'A', 'B', 'C', 'D', 'G', 'H', 'J', 'K', 'L', 'M', 'P', 'S', 'T', 'X', '@', 'd', 'f', 'r' ->
                    screen.wrapWaits = false;
                default -> { }
            }
        }

        private void takeDigit(int digit) {
            if (ended < NUMBERS) {
                numbers[ended] = Math.min(GREATEST, numbers[ended] * 10 + digit);
                digits = true;
            }
        }

        private void doAsked(int b) {
            if (b != 'h' && b != 'l') {
                return;
            }
            boolean on = b == 'h';
            switch (numbers[0]) {
                case 7 -> screen.wrapMode = on;
                case 25 -> screen.cursorSeen = on;
                case 47 -> screen.showOther(on);
                default -> { }
            }
        }

        private void doLonger(int b) {
            int n = Math.max(1, numbers[0]);
            switch (b) {
                case 'A' -> screen.moveTo(screen.column, screen.row - n);
                case 'B' -> screen.moveTo(screen.column, screen.row + n);
                case 'C' -> screen.moveTo(screen.column + n, screen.row);
                case 'D' -> screen.moveTo(screen.column - n, screen.row);
                case 'G' -> screen.moveTo(n - 1, screen.row);
                case 'd' -> screen.moveTo(screen.column, n - 1);
                case 'H', 'f' -> screen.moveTo(Math.max(1, numbers[1]) - 1, n - 1);
                case 'J' -> screen.erase(numbers[0]);
                case 'K' -> screen.eraseInRow(numbers[0]);
                case 'L' -> screen.insertRows(n);
                case 'M' -> screen.deleteRows(n);
                case '@' -> screen.insertCells(n);
                case 'P' -> screen.deleteCells(n);
                case 'X' -> screen.eraseCells(n);
                case 'S' -> screen.scrollUp(n);
                case 'T' -> screen.scrollDown(n);
                case 'r' -> screen.setRegion(n, numbers[1]);
                case 'm' -> setPen();
                case 'h', 'l' -> setInsertMode(b == 'h');
                default -> { }
            }
        }

        private void setInsertMode(boolean on) {
            if (numbers[0] == 4) {
                screen.insertMode = on;
            }
        }

        private void setPen() {
            int told = digits ? ended + 1 : ended;
            int pen = told == 0 ? 0 : screen.pen;
            for (int i = 0; i < NUMBERS && i < told; i++) {
                pen = changedPen(pen, numbers[i]);
            }
            screen.pen = pen;
        }

        private static int changedPen(int pen, int number) {
            if (number >= 30 && number <= 37) {
                return withColour(pen, number - 29);
            }
            if (number >= 40 && number <= 47) {
                return withGround(pen, number - 39);
            }
            return switch (number) {
                case 0 -> 0;
                case 1 -> pen | 1;
                case 4 -> pen | 2;
                case 7 -> pen | 4;
                case 22 -> pen & ~1;
                case 24 -> pen & ~2;
                case 27 -> pen & ~4;
                case 39 -> withColour(pen, 0);
                case 49 -> withGround(pen, 0);
                default -> pen;
            };
        }

        private static int withColour(int pen, int colour) {
            return (pen & ~(15 << 4)) | (colour << 4);
        }

        private static int withGround(int pen, int ground) {
            return (pen & ~(15 << 8)) | (ground << 8);
        }
    }

    /** The outer screen as it was REDRAWN last, and OUT. */
    private static final class Outer {
        /* The dearest cell: 27 [ 0 ;1 ;4 ;7 ;3c ;4c m and its character. */
        private static final int BYTES_OF_A_CELL = 17;
        /* 27 [ 16 ; 40 H */
        private static final int BYTES_OF_A_MOVE = 8;
        private static final int BYTES_OF_A_MODE = 6;
        private static final int NOWHERE = NONE;

        private final int width;
        private final int[] shown;
        private final int[] bytes;
        private int size;
        private int column;
        private int row;
        private int pen;
        private boolean seen = true;

        Outer(int width, int height) {
            this.width = width;
            shown = new int[width * height];
            Arrays.fill(shown, BLANK);
            bytes = new int[width * height * BYTES_OF_A_CELL + (height + 1) * BYTES_OF_A_MOVE + BYTES_OF_A_MODE];
        }

        void begin() {
            size = 0;
        }

        void show(int toColumn, int toRow, int value) {
            int at = toRow * width + toColumn;
            if (at < 0 || at >= shown.length || shown[at] == value) {
                return;
            }
            shown[at] = value;
            moveTo(toColumn, toRow);
            takePen(value / STEP);
            put(value % STEP);
            column = toColumn == width - 1 ? NOWHERE : toColumn + 1;
        }

        void end(int toColumn, int toRow, boolean nowSeen) {
            if (nowSeen) {
                moveTo(toColumn, toRow);
            }
            if (nowSeen != seen) {
                seen = nowSeen;
                beginSequence('?');
                putNumber(25);
                put(seen ? 'h' : 'l');
            }
        }

        private void moveTo(int toColumn, int toRow) {
            if (column != toColumn || row != toRow) {
                column = toColumn;
                row = toRow;
                put(27);
                put('[');
                putNumber(row + 1);
                put(';');
                putNumber(column + 1);
                put('H');
            }
        }

        private void takePen(int attribute) {
            if (pen != attribute) {
                pen = attribute;
                beginSequence('0');
                putPart((pen & 1) != 0, 1);
                putPart((pen & 2) != 0, 4);
                putPart((pen & 4) != 0, 7);
                int colour = (pen >> 4) & 15;
                putPart(colour != 0, 29 + colour);
                int ground = (pen >> 8) & 15;
                putPart(ground != 0, 39 + ground);
                put('m');
            }
        }

        private void beginSequence(int b) {
            put(27);
            put('[');
            put(b);
        }

        private void putPart(boolean there, int number) {
            if (there) {
                put(';');
                putNumber(number);
            }
        }

        /** A number below 100. */
        private void putNumber(int number) {
            if (number >= 10) {
                put('0' + number / 10);
            }
            put('0' + number % 10);
        }

        private void put(int b) {
            if (size < bytes.length) {
                bytes[size] = b;
                size++;
            }
        }
    }
}
