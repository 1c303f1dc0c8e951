/** The document's sentences on the screen and its panes that name a boundary: each stands above its own test. */
final class LayoutBoundariesTest {
    private static final String ESC = Checks.ESC;

    public static void main(String[] args) {
        calls();
        roomOfAllCalls();
        characters();
        attributes();
        numbersOfPanes();
        pane0AtFirst();
        splitColumns();
        splitRows();
        tooSmall();
        leastFreeNumber();
        theOnlyOne();
        smallestShare();
        sharesOfAChain();
        shareAcross();
        focusClosed();
        resizedOnlyByAChange();
        upperLeft();
        notShownToo();
        newCells();
        nearestCursor();
        nearestSavedCursor();
        regionIsAllRows();
        waitIsOff();
        smallestPane();
        Checks.end();
    }

    /** "An object is used for at most 512 calls after it has been made" */
    private static void calls() {
        PaneHouse house = new PaneHouse(40, 16);
        for (int i = 0; i < 510; i++) {
            house.key(i % 200 + 3);
        }
        Checks.same("call 511", house.about(0, 10), 510);
        Checks.same("call 512", house.input(0, 63), 509 % 200 + 3);
        PaneHouse pasted = Checks.house(40, 16, "x");
        pasted.select(0, 0, 0, 15, 39);
        for (int i = 0; i < 254; i++) {
            Checks.command(pasted, ']');
        }
        Checks.same("call 511 of pastes", pasted.about(0, 10), 254 * 16);
        PaneHouse split = new PaneHouse(8, 4);
        for (int i = 0; i < 255; i++) {
            split.close(split.split(0, i % 2 == 0));
        }
        Checks.same("call 511 of splits", split.split(0, true), 1);
        Checks.same("call 512 of splits", split.about(1, 3), 2);
    }

    /** No call but a split makes an object, so 512 of the dearest ones need no more room than the first one. */
    private static void roomOfAllCalls() {
        PaneHouse house = new PaneHouse(40, 16);
        for (int i = 0; i < 255; i++) {
            Checks.feed(house, 0, ESC + "[9" + (i % 10) + "S");
            house.redraw();
        }
        Checks.same("HISTORY behind 510 calls", house.about(0, 7), 30);
    }

    /** "CELLS have a character (32 .. 126, blank 32)" */
    private static void characters() {
        PaneHouse house = new PaneHouse(8, 4);
        for (int b = 0; b < 256; b++) {
            house = Checks.house(8, 4, "ab\r" + (char) b);
            boolean written = b >= 32 && b <= 126;
            Checks.same("byte " + b, house.cell(0, 0, false), written ? b : 'a');
        }
        Checks.same("blank", house.cell(7, 3, false), 32);
    }

    /** "where there is one (0 .. 7); 0 at first" */
    private static void attributes() {
        PaneHouse house = Checks.house(8, 4, ESC + "[30ma" + ESC + "[37mb" + ESC + "[39;40mc" + ESC + "[47md"
                + ESC + "[1;4;7;37me" + ESC + "[38;48mf" + ESC + "[0mg");
        Checks.same("attributes", Checks.attributes(house, 0), "16 128 256 2048 2183 2183 0 0");
    }

    /** "PANES have numbers 0 .. 7 and an AREA." */
    private static void numbersOfPanes() {
        PaneHouse house = new PaneHouse(40, 16);
        for (int i = 1; i < 8; i++) {
            Checks.same("pane " + i, house.split(i - 1, i % 2 == 0), i);
        }
        Checks.same("panes", house.count(0), 8);
        Checks.refuses("a ninth one", house, Checks.STATE, () -> house.split(0, true));
        Checks.command(house, '"');
        Checks.command(house, '%');
        Checks.same("none by keys", house.count(0), 8);
        Checks.refuses("pane 8", house, Checks.INDEX, () -> house.about(8, 0));
        Checks.refuses("pane -1", house, Checks.INDEX, () -> house.about(-1, 0));
        Checks.refuses("a pane far off", house, Checks.INDEX, () -> house.about(Integer.MAX_VALUE, 0));
        Checks.refuses("a pane far off", house, Checks.INDEX, () -> house.about(Integer.MIN_VALUE, 0));
    }

    /** "Pane 0 has the whole screen at first, and the FOCUS." */
    private static void pane0AtFirst() {
        PaneHouse house = new PaneHouse(9, 5);
        Checks.same("area", Checks.area(house, 0), "0 0 9 5");
        Checks.same("FOCUS", house.count(1), 0);
        for (int pane = 1; pane < 8; pane++) {
            Checks.same("pane " + pane, Checks.isPane(house, pane) ? 1 : 0, 0);
        }
    }

    /** "SPLIT, a pane's area of n rows (down) or columns (n above 2) gets a first part of (n - 1) / 2 for it" */
    private static void splitColumns() {
        for (int width = 8; width <= 40; width++) {
            PaneHouse house = new PaneHouse(width, 4);
            for (int n = width; n > 2; n = (n - 1) / 2) {
                int added = house.split(0, false);
                int first = (n - 1) / 2;
                Checks.same(n + " columns, the first part", Checks.area(house, 0), "0 0 " + first + " 4");
                Checks.same(n + " columns, the rest", Checks.area(house, added), first + 1 + " 0 " + (n - 1 - first) + " 4");
                Checks.same(n + " columns, the border", house.cell(first, 3, false), '|');
            }
            Checks.refuses("too few columns of " + width, house, Checks.STATE, () -> house.split(0, false));
        }
    }

    /** "SPLIT, a pane's area of n rows (down) ...": the same with rows. */
    private static void splitRows() {
        for (int height = 4; height <= 16; height++) {
            PaneHouse house = new PaneHouse(8, height);
            for (int n = height; n > 2; n = (n - 1) / 2) {
                int added = house.split(0, true);
                int first = (n - 1) / 2;
                Checks.same(n + " rows, the first part", Checks.area(house, 0), "0 0 8 " + first);
                Checks.same(n + " rows, the rest", Checks.area(house, added), "0 " + (first + 1) + " 8 " + (n - 1 - first));
                Checks.same(n + " rows, the border", house.cell(7, first, false), '-');
            }
            Checks.refuses("too few rows of " + height, house, Checks.STATE, () -> house.split(0, true));
        }
    }

    /** "(n above 2)": 3 can be split, 2 and 1 can't, and the keys for it do nothing then. */
    private static void tooSmall() {
        PaneHouse house = new PaneHouse(8, 4);
        house.split(0, false);
        Checks.same("4 | 3 columns: 3", house.split(0, false), 2);
        Checks.same("1 column each", house.about(0, 2) + house.about(2, 2), 2);
        Checks.refuses("1 column", house, Checks.STATE, () -> house.split(2, false));
        Checks.same("4 columns", house.split(1, false), 3);
        Checks.refuses("2 columns", house, Checks.STATE, () -> house.split(3, false));
        Checks.same("4 rows of 1 column", house.split(0, true), 4);
        Checks.refuses("1 row", house, Checks.STATE, () -> house.split(0, true));
        Checks.refuses("2 rows", house, Checks.STATE, () -> house.split(4, true));
        String before = Checks.state(house);
        Checks.command(house, '"');
        Checks.command(house, '%');
        Checks.same("keys in 1 column and 2 rows", Checks.state(house), before);
    }

    /** "a new pane, of the least free number, which gets the FOCUS" */
    private static void leastFreeNumber() {
        PaneHouse house = new PaneHouse(40, 16);
        for (int i = 1; i < 8; i++) {
            house.split(i - 1, i % 2 == 0);
        }
        house.close(5);
        house.close(0);
        house.close(3);
        house.focus(7);
        for (int due : new int[] {0, 3, 5}) {
            Checks.same("the least free number", house.split(1, due == 3), due);
            Checks.same("the FOCUS", house.count(1), due);
        }
        Checks.same("all are there", house.count(0), 8);
    }

    /** "CLOSED (not the only one)" */
    private static void theOnlyOne() {
        PaneHouse house = new PaneHouse(8, 4);
        house.split(0, true);
        Checks.same("one of two", house.close(0), 1);
        Checks.refuses("the only one", house, Checks.STATE, () -> house.close(1));
        String before = Checks.state(house);
        Checks.same("x", Checks.command(house, 'x'), 1);
        Checks.same("x does nothing", Checks.state(house), before);
    }

    /** "a first part of (m - 1) * a / (n - 1), but at least 1 and at most m - 2": from parts of 1 and 1. */
    private static void smallestShare() {
        PaneHouse house = new PaneHouse(8, 4);
        house.split(0, false);
        house.split(0, false);
        house.close(1);
        Checks.same("n = 3, a = 1, m = 8", Checks.area(house, 0) + ", " + Checks.area(house, 2), "0 0 3 4, 4 0 4 4");
        PaneHouse rows = new PaneHouse(8, 7);
        rows.split(0, true);
        rows.split(1, true);
        rows.close(0);
        Checks.same("n = 3, a = 1, m = 7", Checks.area(rows, 1) + ", " + Checks.area(rows, 2), "0 0 8 3, 0 4 8 3");
    }

    /** "in it each split of n cells with a first part of a, which get m cells, has a first part of (m - 1) * a / (n - 1)" */
    private static void sharesOfAChain() {
        for (int width = 8; width <= 40; width++) {
            PaneHouse house = new PaneHouse(width, 4);
            int panes = 1;
            while (panes < 8 && house.about(panes - 1, 2) > 2) {
                house.split(panes - 1, false);
                panes++;
            }
            int[] before = new int[panes];
            for (int i = 0; i < panes; i++) {
                before[i] = house.about(i, 2);
            }
            house.close(0);
            int n = width - 1 - before[0];
            int m = width;
            int column = 0;
            for (int i = 1; i < panes - 1; i++) {
                int first = Math.max(1, Math.min(m - 2, (m - 1) * before[i] / (n - 1)));
                Checks.same("pane " + i + " of " + width, Checks.area(house, i), column + " 0 " + first + " 4");
                column += first + 1;
                m -= first + 1;
                n -= before[i] + 1;
            }
            Checks.same("the last pane of " + width, Checks.area(house, panes - 1), column + " 0 " + m + " 4");
        }
    }

    /** "the other part of its split gets all of its area": a split across it gets as many cells as it had. */
    private static void shareAcross() {
        PaneHouse house = new PaneHouse(8, 4);
        house.split(0, true);
        house.split(0, false);
        house.close(1);
        Checks.same("m = n", Checks.area(house, 0) + ", " + Checks.area(house, 2), "0 0 3 4, 4 0 4 4");
    }

    /** "If the FOCUS was closed, the pane with the least number has it." */
    private static void focusClosed() {
        PaneHouse house = new PaneHouse(40, 16);
        house.split(0, true);
        house.split(0, true);
        house.split(0, true);
        Checks.same("the last number", house.close(3), 0);
        Checks.same("the first number", house.close(0), 1);
        Checks.same("another one", house.close(2), 1);
        house.split(1, false);
        house.focus(1);
        Checks.same("another one, of the least number", house.close(0), 1);
    }

    /** "RESIZED (only when its columns or rows change)" */
    private static void resizedOnlyByAChange() {
        PaneHouse house = new PaneHouse(8, 9);
        house.split(0, true);
        house.split(1, true);
        Checks.feed(house, 0, ESC + "[2;3r" + ESC + "[4Habcdefgh");
        Checks.feed(house, 1, "abcdefgh");
        house.close(2);
        Checks.same("the same area", house.about(0, 6), 1);
        Checks.same("more rows", house.about(1, 6), 0);
        house.focus(0);
        Checks.feed(house, 0, ESC + "[3H\n");
        Checks.same("its REGION stays", house.about(0, 7), 0);
        PaneHouse moved = new PaneHouse(8, 9);
        moved.split(0, true);
        moved.split(0, false);
        Checks.feed(moved, 2, "abcd");
        moved.split(2, false);
        Checks.same("fewer columns, as many rows", moved.about(2, 6), 0);
    }

    /** "it keeps cells ... from the upper left" */
    private static void upperLeft() {
        PaneHouse house = Checks.house(8, 4, "abcdefgh\r\nijklmnop\r\nqrstuvwx\r\nyz012345" + ESC + "[?25l");
        house.split(0, true);
        house.split(0, false);
        Checks.same("one row of three columns", Checks.row(house, 0), "abc|    ");
        house.close(2);
        house.close(1);
        Checks.same("nothing comes back", Checks.rows(house), "abc     /        /        /        ");
    }

    /** "(those that are not shown, too)" */
    private static void notShownToo() {
        PaneHouse house = Checks.house(8, 4, "abcdefgh\r\nijklmnop" + ESC + "[?47h");
        house.split(0, true);
        house.split(0, false);
        house.close(1);
        house.close(2);
        Checks.feed(house, 0, ESC + "[?47l");
        Checks.same("main cells that were cut", Checks.rows(house), "abc     /        /        /        ");
    }

    /** "new ones are blank with attribute 0" */
    private static void newCells() {
        PaneHouse house = new PaneHouse(8, 4);
        house.split(0, false);
        Checks.feed(house, 0, ESC + "[41m" + ESC + "[2J");
        house.close(1);
        Checks.same("new columns", Checks.attributes(house, 3), "512 512 512 0 0 0 0 0");
        house.split(0, true);
        Checks.feed(house, 0, ESC + "[2J");
        house.close(1);
        Checks.same("old row", Checks.attributes(house, 0), "512 512 512 512 512 512 512 512");
        Checks.same("new row", Checks.attributes(house, 1), "0 0 0 0 0 0 0 0");
    }

    /** "cursor ... moved to the nearest row and column that are there" */
    private static void nearestCursor() {
        PaneHouse house = Checks.house(8, 4, ESC + "[3;6H");
        house.split(0, true);
        Checks.same("the last row", Checks.cursor(house, 0), "5 0 0");
        house.split(0, false);
        Checks.same("the last column", Checks.cursor(house, 0), "2 0 0");
        house.close(2);
        house.close(1);
        Checks.same("it stays there", Checks.cursor(house, 0), "2 0 0");
    }

    /** "and SAVED cursor are moved to the nearest row and column that are there" */
    private static void nearestSavedCursor() {
        PaneHouse house = Checks.house(8, 4, ESC + "[1m" + ESC + "[3;6H" + ESC + "7" + ESC + "[m" + ESC + "[H");
        house.split(0, false);
        house.close(1);
        Checks.feed(house, 0, ESC + "8");
        Checks.same("the column alone", Checks.cursor(house, 0), "2 2 0");
        house.split(0, true);
        house.close(1);
        Checks.feed(house, 0, ESC + "8");
        Checks.same("the row alone", Checks.cursor(house, 0), "2 0 0");
        Checks.same("the SAVED PEN stays", house.about(0, 8), 1);
        PaneHouse first = Checks.house(8, 4, ESC + "7" + ESC + "[3;6H");
        first.split(0, false);
        Checks.feed(first, 0, ESC + "8");
        Checks.same("row 0, column 0 are there", Checks.cursor(first, 0), "0 0 0");
    }

    /** "the REGION is all rows" */
    private static void regionIsAllRows() {
        PaneHouse house = Checks.house(8, 9, ESC + "[2;3r");
        house.split(0, true);
        Checks.feed(house, 0, ESC + "[4H\n");
        Checks.same("fewer rows", house.about(0, 7), 1);
        Checks.feed(house, 0, ESC + "[1;3r");
        house.close(1);
        Checks.feed(house, 0, ESC + "[9H\n");
        Checks.same("more rows", house.about(0, 7), 2);
    }

    /** "the wrap that waits is off" */
    private static void waitIsOff() {
        PaneHouse house = Checks.house(8, 4, "abcdefgh");
        house.split(0, true);
        Checks.same("the wait", house.about(0, 6), 0);
        Checks.feed(house, 0, "X");
        Checks.same("no wrap", Checks.row(house, 0), "abcdefgX");
    }

    /** A pane of one row and one column, the least that a split leaves. */
    private static void smallestPane() {
        PaneHouse house = new PaneHouse(8, 4);
        house.split(0, true);
        house.split(0, false);
        house.split(0, false);
        Checks.same("area", Checks.area(house, 0), "0 0 1 1");
        Checks.feed(house, 0, "a");
        Checks.same("a wrap waits", Checks.cursor(house, 0), "0 0 1");
        Checks.feed(house, 0, "bc");
        Checks.same("each wrap scrolls", house.about(0, 7), 2);
        Checks.feed(house, 0, "\t\b\r" + ESC + "[9C" + ESC + "[9B" + ESC + "[9;9H" + ESC + "[1;1r" + ESC + "[@" + ESC + "[4hd");
        Checks.same("the only cell", Checks.row(house, 0).substring(0, 2), "d|");
        Checks.feed(house, 0, ESC + "[P" + ESC + "[L" + ESC + "[M" + ESC + "[T");
        Checks.same("erased", house.cell(0, 0, false), ' ');
        Checks.same("no more HISTORY", house.about(0, 7), 2);
        Checks.same("its HISTORY", house.copy(0, true, 9), 2);
        Checks.same("the oldest", house.cell(0, 0, false), 'a');
        Checks.same("COPIED", house.select(0, 0, 0, 0, 0), 1);
    }
}
