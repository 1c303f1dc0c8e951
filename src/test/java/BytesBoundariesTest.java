/** The document's sentences on a pane's bytes that name a boundary: each stands above its own test. */
final class BytesBoundariesTest {
    private static final String ESC = Checks.ESC;
    private static final String FULL = "abcdefgh\r\nijklmnop\r\nqrstuvwx\r\nyz012345";
    private static final String FULL_ROWS = "abcdefgh/ijklmnop/qrstuvwx/yz012345";
    private static final String ACTING = "\b\t\n\r" + ESC;

    public static void main(String[] args) {
        oneToTheLeft();
        nextColumnThat8Divides();
        actWithinSequences();
        beginsAlways();
        othersDoNothing();
        wrapThatWaits();
        wrapInTheRegion();
        wrapModeOff();
        lastOneIsLost();
        downInTheRegion();
        downAtTheEnd();
        upInTheRegion();
        upAtTheBegin();
        scrollsUpAtMostItsRows();
        scrollsDownAtMostItsRows();
        noHistory();
        historyOf30Rows();
        savedAtFirst();
        asAtFirst();
        anyOtherByteEndsIt();
        Checks.end();
    }

    /** "8: the cursor goes one to the left, if it can." */
    private static void oneToTheLeft() {
        Checks.draws("8 in the last column", "abcdefgh\b", "abcdefgh", "6 0 0");
        Checks.draws("8 in column 1", "a\b", "a", "0 0 0");
        Checks.draws("8 in column 0", "a\b\b", "a", "0 0 0");
        Checks.draws("8 in column 0 of row 1", "a\r\n\b", "a", "0 1 0");
    }

    /** "9: to the next column that 8 divides, at most the last one." */
    private static void nextColumnThat8Divides() {
        for (int width : new int[] {8, 9, 10, 16, 17, 40}) {
            for (int column = 0; column < width; column++) {
                PaneHouse house = Checks.house(width, 4, ESC + "[" + (column + 1) + "G\t");
                int next = column - column % 8 + 8;
                Checks.same("9 from " + column + " of " + width, house.about(0, 4), next < width ? next : width - 1);
            }
        }
        Checks.draws("9 ends the wait", "abcdefgh\tX", "abcdefgX", "7 0 1");
    }

    /** "(8, 9, 10, 13 act within sequences, too, which go on.)" */
    private static void actWithinSequences() {
        Checks.draws("8", "abcd" + ESC + "\b[\b1\b;\b7HX", "abcd  X", "7 0 0");
        Checks.draws("8 acts", "abcd" + ESC + "\b[\b\bmX", "aXcd", "2 0 0");
        Checks.draws("13 acts", "abcd" + ESC + "[3\rCX", "abcX", "4 0 0");
        Checks.draws("10 acts", "abcd" + ESC + "\n[\n1\n;1mX", "abcd/ / /    X", "5 3 0");
        Checks.draws("10 scrolls", FULL + ESC + "[\n?25\nh", "qrstuvwx/yz012345", "7 3 0");
        Checks.draws("9 acts", ESC + "\t7" + ESC + "[H" + ESC + "8X", "       X", "7 0 1");
        PaneHouse wide = Checks.house(40, 4, ESC + "[\t?\t2\t5\tl");
        Checks.same("9 four times", wide.about(0, 4), 32);
        Checks.same("and the sequence goes on", wide.count(4), 0);
    }

    /** "27 begins a sequence, always." */
    private static void beginsAlways() {
        for (String begun : new String[] {"", ESC, ESC + "[", ESC + "[?", ESC + "[9", ESC + "[9;", ESC + "[9;9", ESC + "[!"}) {
            Checks.draws("27 behind " + begun.length() + " bytes", begun + ESC + "[3CX", "   X", "4 0 0");
        }
    }

    /** "Others do nothing." */
    private static void othersDoNothing() {
        PaneHouse house = Checks.house(8, 4, "ab");
        for (int b = 0; b < 256; b++) {
            if ((b < 32 || b > 126) && ACTING.indexOf(b) < 0) {
                String before = Checks.state(house);
                house.feed(0, b, 1);
                Checks.same("byte " + b, Checks.state(house), before);
            }
        }
        Checks.draws("the wait stays", "abcdefgh\u0000\u007f\u00ffX", "abcdefgh/X", "1 1 0");
    }

    /** "if a wrap waits, the cursor goes to column 0 and DOWN, and none waits" */
    private static void wrapThatWaits() {
        Checks.draws("the column before the last one", "abcdefg", "abcdefg", "7 0 0");
        Checks.draws("the last column", "abcdefgh", "abcdefgh", "7 0 1");
        Checks.draws("the next byte", "abcdefghi", "abcdefgh/i", "1 1 0");
        Checks.draws("a full screen", FULL, FULL_ROWS, "7 3 1");
        Checks.draws("the next byte of a full screen", FULL + "X", "ijklmnop/qrstuvwx/yz012345/X", "1 3 0");
    }

    /** "DOWN: in the REGION's last row it SCROLLS UP by one; else one row down, if there is one": by a wrap. */
    private static void wrapInTheRegion() {
        Checks.draws("in its last row", FULL + ESC + "[2;3r" + ESC + "[3;8HXY", "abcdefgh/qrstuvwX/Y/yz012345", "1 2 0");
        Checks.draws("below it, in the last row", FULL + ESC + "[2;3r" + ESC + "[4;8HXY",
                "abcdefgh/ijklmnop/qrstuvwx/Yz01234X", "1 3 0");
    }

    /** "In the last column a wrap waits, if WRAP mode is on (the cursor stays)" */
    private static void wrapModeOff() {
        Checks.draws("off", ESC + "[?7labcdefghi", "abcdefgi", "7 0 0");
        Checks.draws("on behind it", ESC + "[?7labcdefgh" + ESC + "[?7hi", "abcdefgi", "7 0 1");
    }

    /** "In INSERT mode cells from the cursor on go one to the right first, the last one is lost." */
    private static void lastOneIsLost() {
        String insert = "abcdefgh" + ESC + "[4h";
        Checks.draws("in column 0", insert + "\rX", "Xabcdefg", "1 0 0");
        Checks.draws("in the column before the last one", insert + ESC + "[7GX", "abcdefXg", "7 0 0");
        Checks.draws("in the last column", insert + ESC + "[8GX", "abcdefgX", "7 0 1");
        Checks.draws("behind a wrap", FULL + ESC + "[1;8H" + ESC + "[4hXY", "abcdefgX/Yijklmno/qrstuvwx/yz012345", "1 1 0");
    }

    /** "DOWN: in the REGION's last row it SCROLLS UP by one; else one row down, if there is one." */
    private static void downInTheRegion() {
        String region = FULL + ESC + "[2;3r";
        Checks.draws("above it", region + "\n", FULL_ROWS, "0 1 0");
        Checks.draws("in its first row", region + ESC + "[2H\n", FULL_ROWS, "0 2 0");
        Checks.draws("in its last row", region + ESC + "[3H\n", "abcdefgh/qrstuvwx//yz012345", "0 2 0");
        Checks.draws("below it", region + ESC + "[4H\n", FULL_ROWS, "0 3 0");
        Checks.draws("27 D likewise", region + ESC + "[3H" + ESC + "D", "abcdefgh/qrstuvwx//yz012345", "0 2 0");
    }

    /** "... else one row down, if there is one": in the screen's last row, which is the REGION's at first. */
    private static void downAtTheEnd() {
        Checks.draws("in the row before the last one", FULL + ESC + "[3H\n", FULL_ROWS, "0 3 0");
        Checks.draws("in the last row", FULL + ESC + "[4H\n", "ijklmnop/qrstuvwx/yz012345", "0 3 0");
    }

    /** "UP likewise, SCROLLING DOWN in the first one." */
    private static void upInTheRegion() {
        String region = FULL + ESC + "[2;3r";
        Checks.draws("below it", region + ESC + "[4H" + ESC + "M", FULL_ROWS, "0 2 0");
        Checks.draws("in its last row", region + ESC + "[3H" + ESC + "M", FULL_ROWS, "0 1 0");
        Checks.draws("in its first row", region + ESC + "[2H" + ESC + "M", "abcdefgh//ijklmnop/yz012345", "0 1 0");
        Checks.draws("above it", region + ESC + "[1H" + ESC + "M", FULL_ROWS, "0 0 0");
    }

    /** "UP likewise ...": in the screen's first row, which is the REGION's at first. */
    private static void upAtTheBegin() {
        Checks.draws("in row 1", FULL + ESC + "[2H" + ESC + "M", FULL_ROWS, "0 0 0");
        Checks.draws("in row 0", FULL + ESC + "[1H" + ESC + "M", "/abcdefgh/ijklmnop/qrstuvwx", "0 0 0");
    }

    /** "SCROLLS UP by n (at most its rows): rows of the REGION go n up, blank rows with the PEN's attribute come below" */
    private static void scrollsUpAtMostItsRows() {
        String[] due = {"ijklmnop/qrstuvwx/yz012345", "qrstuvwx/yz012345", "yz012345", "", "", ""};
        int[] by = {1, 2, 3, 4, 5, 999};
        for (int i = 0; i < by.length; i++) {
            Checks.draws(by[i] + " S", FULL + ESC + "[" + by[i] + "S", due[i], "7 3 0");
            PaneHouse house = Checks.house(8, 4, FULL + ESC + "[45m" + ESC + "[" + by[i] + "S");
            Checks.same(by[i] + " S: the HISTORY", house.about(0, 7), Math.min(4, by[i]));
            Checks.same(by[i] + " S: the first row", house.cell(0, 0, true), by[i] < 4 ? 0 : 256 * 6);
            Checks.same(by[i] + " S: the last row", house.cell(7, 3, true), 256 * 6);
        }
        PaneHouse region = Checks.house(8, 4, FULL + ESC + "[1;3r" + ESC + "[4S");
        Checks.same("4 S of 3 rows", Checks.rows(region), "        /        /        /yz012345");
        Checks.same("4 S of 3 rows: the HISTORY", region.about(0, 7), 3);
    }

    /** "DOWN likewise; no history." */
    private static void scrollsDownAtMostItsRows() {
        String[] due = {"/abcdefgh/ijklmnop/qrstuvwx", "//abcdefgh/ijklmnop", "///abcdefgh", "", "", ""};
        int[] by = {1, 2, 3, 4, 5, 999};
        for (int i = 0; i < by.length; i++) {
            Checks.draws(by[i] + " T", FULL + ESC + "[" + by[i] + "T", due[i], "7 3 0");
            PaneHouse house = Checks.house(8, 4, FULL + ESC + "[45m" + ESC + "[" + by[i] + "T");
            Checks.same(by[i] + " T: no HISTORY", house.about(0, 7), 0);
            Checks.same(by[i] + " T: the first row", house.cell(0, 0, true), 256 * 6);
            Checks.same(by[i] + " T: the last row", house.cell(7, 3, true), by[i] < 4 ? 0 : 256 * 6);
        }
        Checks.draws("9 T of 2 rows", FULL + ESC + "[2;3r" + ESC + "[9T", "abcdefgh///yz012345", "0 0 0");
    }

    /** "if the REGION begins with row 0 and the main cells are shown, rows that go away go to the HISTORY" */
    private static void noHistory() {
        goesAway("the REGION is all rows", "", 1);
        goesAway("it begins with row 0", ESC + "[1;2r", 1);
        goesAway("it begins with row 1", ESC + "[2;4r", 0);
        goesAway("other cells are shown", ESC + "[?47h", 0);
        goesAway("other cells, a REGION from row 0 on", ESC + "[?47h" + ESC + "[1;2r", 0);
        goesAway("main cells again", ESC + "[?47h" + ESC + "[?47l", 1);
    }

    private static void goesAway(String what, String before, int due) {
        Checks.same(what, Checks.house(8, 4, FULL + before + ESC + "[S").about(0, 7), due);
    }

    /** "the HISTORY (30 rows; the oldest is lost), one by one" */
    private static void historyOf30Rows() {
        PaneHouse house = Checks.house(8, 4, "");
        for (int i = 0; i < 29; i++) {
            Checks.feed(house, 0, ESC + "[H" + (char) ('A' + i) + ESC + "[S");
        }
        Checks.same("29 rows", house.about(0, 7), 29);
        Checks.feed(house, 0, ESC + "[Hx" + ESC + "[S");
        Checks.same("30 rows", house.about(0, 7), 30);
        house.copy(0, true, 30);
        Checks.same("the oldest of 30", house.cell(0, 0, false), 'A');
        Checks.feed(house, 0, ESC + "[Hy" + ESC + "[S");
        Checks.same("31 rows", house.about(0, 7), 30);
        Checks.same("the oldest of 31", house.cell(0, 0, false), 'B');
        Checks.feed(house, 0, ESC + "[H1\r\n2\r\n3\r\n4" + ESC + "[4S");
        Checks.same("35 rows", Checks.rows(house), "F       /G       /H       /I       ");
        house.copy(0, true, -26);
        Checks.same("one by one", Checks.rows(house), "1       /2       /3       /4       ");
    }

    /** "8 they are taken (at first row 0, column 0, attribute 0)" */
    private static void savedAtFirst() {
        PaneHouse house = Checks.house(8, 4, ESC + "[1m" + ESC + "[4;8H" + ESC + "8");
        Checks.same("the cursor", Checks.cursor(house, 0), "0 0 0");
        Checks.same("the PEN", house.about(0, 8), 0);
        Checks.draws("twice", "ab" + ESC + "7\n" + ESC + "8c\n" + ESC + "8d", "abd", "3 0 0");
        Checks.draws("the last place, no wait with it", "abcdefgh" + ESC + "7" + ESC + "8X", "abcdefgX", "7 0 1");
    }

    /** "c all is as at first (also HISTORY; but not COPY mode, OFFSET, INPUT)" */
    private static void asAtFirst() {
        PaneHouse fresh = new PaneHouse(8, 4);
        PaneHouse used = Checks.house(8, 4, FULL + "\n" + ESC + "[7m" + ESC + "7" + ESC + "[4h" + ESC + "[?7l" + ESC + "[?25l"
                + ESC + "[2;3r" + ESC + "[?47hxyz" + ESC + "c");
        Checks.same("all that is told", Checks.state(used), Checks.state(fresh));
        String more = "abcdefghi" + ESC + "[S\rX" + ESC + "8Y" + ESC + "[4H\n\nZ";
        Checks.feed(fresh, 0, more);
        Checks.feed(used, 0, more);
        Checks.same("all that comes behind it", Checks.state(used), Checks.state(fresh));
    }

    /** "any other byte (also below 32 or above 126, but 8, 9, 10, 13, 27) ends it" */
    private static void anyOtherByteEndsIt() {
        for (int b = 0; b < 256; b++) {
            if ("78DMc[".indexOf(b) < 0 && ACTING.indexOf(b) < 0) {
                Checks.draws("27 and " + b, "a" + ESC + (char) b + "b", "ab", "2 0 0");
            }
        }
    }
}
