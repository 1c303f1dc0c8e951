/** What a pane's bytes draw: the terms BYTES, WRITTEN, DOWN, UP, SCROLLS and the sequences. */
final class BytesTest {
    private static final String ESC = Checks.ESC;
    private static final String FULL = "abcdefgh\r\nijklmnop\r\nqrstuvwx\r\nyz012345";

    public static void main(String[] args) {
        plainBytes();
        wraps();
        whatEndsTheWait();
        history();
        regions();
        shortSequences();
        reset();
        numbers();
        moves();
        erasing();
        rowsIn();
        cellsIn();
        pens();
        modes();
        questionMarks();
        otherCells();
        Checks.end();
    }

    private static void draws(String what, String text, String rows, String cursor) {
        Checks.draws(what, text, rows, cursor);
    }

    private static void plainBytes() {
        draws("others do nothing", "a\u0000\u0007\u000b\u007f\u0080\u00ffb", "ab", "2 0 0");
        draws("32 and 126", "xx\r ~", " ~", "2 0 0");
        draws("8", "abc\b\bX", "aXc", "2 0 0");
        draws("8 in column 0", "\b\bX", "X", "1 0 0");
        draws("9", "a\tb", "a      b", "7 0 1");
        draws("13", "abc\rX", "Xbc", "1 0 0");
        draws("10", "ab\ncd", "ab/  cd", "4 1 0");
        PaneHouse wide = Checks.house(20, 4, "\ta\t");
        Checks.same("9 from 9", wide.about(0, 4), 16);
        Checks.feed(wide, 0, "\t");
        Checks.same("9 at most the last column", wide.about(0, 4), 19);
        Checks.feed(wide, 0, ESC + "[17G\t");
        Checks.same("9 from a column that 8 divides", wide.about(0, 4), 19);
    }

    private static void wraps() {
        draws("a wrap waits", "abcdefgh", "abcdefgh", "7 0 1");
        draws("a wrap", "abcdefghi", "abcdefgh/i", "1 1 0");
        draws("a wrap scrolls", "\n\n\nabcdefghi", " / /abcdefgh/i", "1 3 0");
        draws("no WRAP mode", ESC + "[?7labcdefghij", "abcdefgj", "7 0 0");
        draws("WRAP mode again", ESC + "[?7l" + ESC + "[?7habcdefghi", "abcdefgh/i", "1 1 0");
        draws("a wrap that waits, though WRAP mode is off", "abcdefgh" + ESC + "[?7li", "abcdefgh/i", "1 1 0");
        draws("below the REGION", ESC + "[1;2r" + ESC + "[4Habcdefghi", " / / /ibcdefgh", "1 3 0");
    }

    private static void whatEndsTheWait() {
        String[] ends = {"\b", "\t", "\n", "\r", ESC + "8", ESC + "D", ESC + "M", ESC + "c"};
        for (String end : ends) {
            waits("ends the wait: " + (int) end.charAt(end.length() - 1), end, 0);
        }
        for (char end : "ABCDGHJKLMPSTX@dfr".toCharArray()) {
            waits("ends the wait: " + end, ESC + "[" + end, 0);
            waits("ends the wait: 9 " + end, ESC + "[9" + end, 0);
            waits("ends the wait: ? " + end, ESC + "[?" + end, 0);
        }
        for (char other = 64; other <= 126; other++) {
            if ("ABCDGHJKLMPSTX@dfr".indexOf(other) < 0) {
                waits("does not end the wait: " + other, ESC + "[4" + other, 1);
                waits("does not end the wait: ? " + other, ESC + "[?4" + other, 1);
            }
        }
        for (String other : new String[] {ESC + "7", ESC + "[?7h", ESC + "[?25l", ESC + "[?47h", ESC + "E", "\u0000"}) {
            waits("does not end the wait: " + other, other, 1);
        }
        waits("L outside the REGION", ESC + "[2;3r" + "abcdefgh" + ESC + "[L", 0);
        waits("M outside the REGION", ESC + "[2;3r" + "abcdefgh" + ESC + "[M", 0);
        waits("J with 3", ESC + "[3J", 0);
        waits("r that sets nothing", ESC + "[3;3r", 0);
    }

    private static void waits(String what, String text, int due) {
        PaneHouse house = Checks.house(8, 4, "abcdefgh" + text);
        Checks.same(what, house.about(0, 6), due);
    }

    private static void history() {
        PaneHouse house = Checks.house(8, 4, "\n\n\n");
        Checks.same("no history yet", house.about(0, 7), 0);
        Checks.feed(house, 0, "\n" + ESC + "D" + ESC + "[2S" + ESC + "[9S");
        Checks.same("history by 10, D, S", house.about(0, 7), 1 + 1 + 2 + 4);
        Checks.feed(house, 0, ESC + "[M" + ESC + "[H" + ESC + "[4M" + ESC + "[T" + ESC + "M" + ESC + "[2J");
        Checks.same("no history by M, T, 27 M, J", house.about(0, 7), 8);
        Checks.feed(house, 0, ESC + "[2;4r" + ESC + "[S" + ESC + "[4H\n");
        Checks.same("no history if the REGION begins below", house.about(0, 7), 8);
        Checks.feed(house, 0, ESC + "[1;2r" + ESC + "[9S");
        Checks.same("history of a REGION from row 0 on", house.about(0, 7), 10);
        Checks.feed(house, 0, ESC + "[?47h" + ESC + "[r" + ESC + "[4S" + ESC + "[4H\n");
        Checks.same("no history of other cells", house.about(0, 7), 10);
        Checks.feed(house, 0, ESC + "[?47l" + ESC + "[4H");
        for (int i = 0; i < 30; i++) {
            Checks.feed(house, 0, "\r\n" + (char) ('A' + i));
        }
        Checks.same("30 rows at most", house.about(0, 7), 30);
        Checks.feed(house, 0, "\n\n\n\n");
        house.copy(0, true, 99);
        Checks.same("the oldest is lost", Checks.rows(house), "A       /B       /C       /D       ");
    }

    private static void regions() {
        draws("r goes to 0, 0", "ab\ncd" + ESC + "[2;3r", "ab/  cd", "0 0 0");
        draws("r with an end beyond", FULL + ESC + "[2;99r" + ESC + "[4H\n", "abcdefgh/qrstuvwx/yz012345", "0 3 0");
        draws("r with no end", FULL + ESC + "[3r" + ESC + "[4H\n", "abcdefgh/ijklmnop/yz012345", "0 3 0");
        draws("r with an end of 0", FULL + ESC + "[3;0r" + ESC + "[4H\n", "abcdefgh/ijklmnop/yz012345", "0 3 0");
        draws("r of one row does nothing", "ab\nc" + ESC + "[2;2r", "ab/  c", "3 1 0");
        draws("r turned round does nothing", "ab\nc" + ESC + "[3;2r", "ab/  c", "3 1 0");
        draws("r beyond does nothing", "ab\nc" + ESC + "[5;9r", "ab/  c", "3 1 0");
        draws("10 at the REGION's end", FULL + ESC + "[2;3r" + ESC + "[3H\n", "abcdefgh/qrstuvwx//yz012345", "0 2 0");
        draws("10 below the REGION", FULL + ESC + "[2;3r" + ESC + "[4H\n", FULL.replace("\r\n", "/"), "0 3 0");
        draws("M at the REGION's begin", FULL + ESC + "[2;3r" + ESC + "[2H" + ESC + "M",
                "abcdefgh//ijklmnop/yz012345", "0 1 0");
        draws("M above the REGION", FULL + ESC + "[2;3r" + ESC + "M", FULL.replace("\r\n", "/"), "0 0 0");
        draws("S in the REGION", FULL + ESC + "[2;3r" + ESC + "[S", "abcdefgh/qrstuvwx//yz012345", "0 0 0");
        draws("T in the REGION", FULL + ESC + "[2;3r" + ESC + "[T", "abcdefgh//ijklmnop/yz012345", "0 0 0");
        draws("T of all rows", FULL + ESC + "[999T", "", "7 3 0");
        draws("B past the REGION", ESC + "[1;2r" + ESC + "[9Bx", " / / /x", "1 3 0");
    }

    private static void shortSequences() {
        draws("8 without 7", "ab\ncd" + ESC + "8X", "Xb/  cd", "1 0 0");
        draws("7 and 8", "ab" + ESC + "7\r\ncd" + ESC + "8X", "abX/cd", "3 0 0");
        draws("D", "ab" + ESC + "Dc", "ab/  c", "3 1 0");
        draws("M", "\nab" + ESC + "Mc", "  c/ab", "3 0 0");
        draws("M in row 0", "ab" + ESC + "Mc", "  c/ab", "3 0 0");
        draws("others end it", ESC + "Xa" + ESC + "\u0001b" + ESC + "\u00ffc" + ESC + "\u007fd", "abcd", "4 0 0");
        draws("27 begins always", ESC + ESC + "[2" + ESC + "[Ca", " a", "2 0 0");
        draws("8, 9, 10, 13 within", "ab" + ESC + "\b[\r2\n;\t3Hc", "ab/  c", "3 1 0");
        PaneHouse house = Checks.house(8, 4, ESC + "[1m" + ESC + "7" + ESC + "[0m" + ESC + "8");
        Checks.same("the PEN is SAVED", house.about(0, 8), 1);
    }

    private static void reset() {
        PaneHouse house = Checks.house(8, 4, FULL + "\n\n" + ESC + "[1m" + ESC + "7" + ESC + "[?25l" + ESC + "[?7l"
                + ESC + "[4h" + ESC + "[2;3r" + ESC + "[?47hxyz");
        house.key('a');
        house.copy(0, true, 1);
        Checks.feed(house, 0, ESC + "c");
        Checks.same("c: rows", Checks.rows(house), "        /        /        /        ");
        Checks.same("c: attributes", Checks.attributes(house, 0), "0 0 0 0 0 0 0 0");
        Checks.same("c: cursor", Checks.cursor(house, 0), "0 0 0");
        Checks.same("c: HISTORY", house.about(0, 7), 0);
        Checks.same("c: PEN", house.about(0, 8), 0);
        Checks.same("c: COPY mode stays", house.about(0, 9), 1);
        Checks.same("c: INPUT stays", Checks.input(house, 0), "a");
        Checks.same("c: the cursor is not seen in COPY mode", house.count(4), 0);
        house.copy(0, false, 0);
        Checks.same("c: the cursor is seen", house.count(4), 1);
        Checks.feed(house, 0, "abcdefghi" + ESC + "8X\rY");
        Checks.same("c: WRAP, SAVED, INSERT", Checks.rows(house), "Ybcdefgh/i       /        /        ");
        Checks.feed(house, 0, ESC + "[4H\n");
        Checks.same("c: REGION, main cells", house.about(0, 7), 1);
        PaneHouse copying = Checks.house(8, 4, FULL + "\n\n\n");
        copying.copy(0, true, 2);
        Checks.feed(copying, 0, ESC + "c");
        Checks.same("c: OFFSET at most the HISTORY", copying.copy(0, true, 0), 0);
        PaneHouse growing = Checks.house(8, 4, FULL + "\n\n\n");
        growing.copy(0, true, 2);
        Checks.feed(growing, 0, ESC + "c1\r\n2\r\n3\r\n4\r\n5\r\n6\r\n7");
        Checks.same("c: OFFSET stays", Checks.row(growing, 0), "2       ");
    }

    private static void numbers() {
        draws("none", ESC + "[Bx", " /x", "1 1 0");
        draws("0", ESC + "[0Bx", " /x", "1 1 0");
        draws("two digits", ESC + "[02Bx", " / /x", "1 2 0");
        draws("999 counts", ESC + "[9999999999999999999Bx", " / / /x", "1 3 0");
        draws("none before ;", ESC + "[;3Hx", "  x", "3 0 0");
        draws("none behind ;", ESC + "[2;Hx", " /x", "1 1 0");
        draws("others do nothing", ESC + "[ 2!\u0001\u00ff<\u007f;:3Hx", " /  x", "3 1 0");
        draws("64 ends it", "ab\r" + ESC + "[@x", "xab", "1 0 0");
        draws("126 ends it", ESC + "[2~x", "x", "1 0 0");
        draws("[ ends it", ESC + "[[2x", "2x", "2 0 0");
        draws("? not at once", "ab" + ESC + "[2?Dx", "xb", "1 0 0");
        draws("? at once", "ab" + ESC + "[?2Dx", "abx", "3 0 0");
        pen("four at most", ESC + "[1;4;7;31;42m", 7 + 32);
        pen("the others are left out", ESC + "[0;0;0;0;1m", 0);
        pen("the others are left out", ESC + "[1;4;7;3;1m", 7);
        pen("none between ;", ESC + "[1;;4m", 2);
        pen("none before ;", ESC + "[1m" + ESC + "[;4m", 2);
        pen("none behind ;", ESC + "[1;m", 1);
        pen("none, but a ;", ESC + "[1m" + ESC + "[;m", 0);
        pen("999 at most", ESC + "[1m" + ESC + "[00000000000000000000004m", 3);
    }

    private static void moves() {
        String home = ESC + "[3;5H";
        draws("H", home + "x", " / /    x", "5 2 0");
        draws("f", ESC + "[3;5fx", " / /    x", "5 2 0");
        draws("H beyond", ESC + "[99;99H", "", "7 3 0");
        draws("A", home + ESC + "[2A", "", "4 0 0");
        draws("A as far", home + ESC + "[9A", "", "4 0 0");
        draws("B", home + ESC + "[B", "", "4 3 0");
        draws("B as far", home + ESC + "[9B", "", "4 3 0");
        draws("C", home + ESC + "[2C", "", "6 2 0");
        draws("C as far", home + ESC + "[99C", "", "7 2 0");
        draws("D", home + ESC + "[2D", "", "2 2 0");
        draws("D as far", home + ESC + "[99D", "", "0 2 0");
        draws("G", home + ESC + "[7G", "", "6 2 0");
        draws("G beyond", home + ESC + "[9G", "", "7 2 0");
        draws("d", home + ESC + "[2d", "", "4 1 0");
        draws("d beyond", home + ESC + "[9d", "", "4 3 0");
        draws("A past the REGION", ESC + "[2;3r" + home + ESC + "[9A", "", "4 0 0");
    }

    private static void erasing() {
        String place = FULL + ESC + "[2;3H";
        draws("J", place + ESC + "[J", "abcdefgh/ij", "2 1 0");
        draws("0 J", place + ESC + "[0J", "abcdefgh/ij", "2 1 0");
        draws("1 J", place + ESC + "[1J", "/   lmnop/qrstuvwx/yz012345", "2 1 0");
        draws("2 J", place + ESC + "[2J", "", "2 1 0");
        draws("3 J", place + ESC + "[3J", FULL.replace("\r\n", "/"), "2 1 0");
        draws("K", place + ESC + "[K", "abcdefgh/ij/qrstuvwx/yz012345", "2 1 0");
        draws("1 K", place + ESC + "[1K", "abcdefgh/   lmnop/qrstuvwx/yz012345", "2 1 0");
        draws("2 K", place + ESC + "[2K", "abcdefgh//qrstuvwx/yz012345", "2 1 0");
        draws("3 K", place + ESC + "[3K", FULL.replace("\r\n", "/"), "2 1 0");
        draws("X", place + ESC + "[X", "abcdefgh/ij lmnop/qrstuvwx/yz012345", "2 1 0");
        draws("3 X", place + ESC + "[3X", "abcdefgh/ij   nop/qrstuvwx/yz012345", "2 1 0");
        draws("99 X", place + ESC + "[99X", "abcdefgh/ij/qrstuvwx/yz012345", "2 1 0");
        PaneHouse house = Checks.house(8, 4, FULL + ESC + "[44m" + ESC + "[2;7H" + ESC + "[J");
        Checks.same("the PEN's attribute", Checks.attributes(house, 1), "0 0 0 0 0 0 1280 1280");
        Checks.same("the PEN's attribute", Checks.attributes(house, 3), "1280 1280 1280 1280 1280 1280 1280 1280");
        Checks.same("the PEN's attribute", Checks.attributes(house, 0), "0 0 0 0 0 0 0 0");
    }

    private static void rowsIn() {
        String place = FULL + ESC + "[2;3H";
        draws("L", place + ESC + "[L", "abcdefgh//ijklmnop/qrstuvwx", "0 1 0");
        draws("2 L", place + ESC + "[2L", "abcdefgh///ijklmnop", "0 1 0");
        draws("99 L", place + ESC + "[99L", "abcdefgh", "0 1 0");
        draws("M", place + ESC + "[M", "abcdefgh/qrstuvwx/yz012345", "0 1 0");
        draws("2 M", place + ESC + "[2M", "abcdefgh/yz012345", "0 1 0");
        draws("99 M", place + ESC + "[99M", "abcdefgh", "0 1 0");
        String region = FULL + ESC + "[2;3r" + ESC + "[2;3H";
        draws("L in the REGION", region + ESC + "[L", "abcdefgh//ijklmnop/yz012345", "0 1 0");
        draws("M in the REGION", region + ESC + "[M", "abcdefgh/qrstuvwx//yz012345", "0 1 0");
        draws("L in the REGION's last row", region + "\n" + ESC + "[L", "abcdefgh/ijklmnop//yz012345", "0 2 0");
        draws("M in the REGION's last row", region + "\n" + ESC + "[M", "abcdefgh/ijklmnop//yz012345", "0 2 0");
        draws("L outside", region + ESC + "[A" + ESC + "[L", FULL.replace("\r\n", "/"), "2 0 0");
        draws("M outside", region + ESC + "[2B" + ESC + "[M", FULL.replace("\r\n", "/"), "2 3 0");
        PaneHouse house = Checks.house(8, 4, FULL + ESC + "[7m" + ESC + "[2;3H" + ESC + "[L");
        Checks.same("L with the PEN's attribute", Checks.attributes(house, 1), "4 4 4 4 4 4 4 4");
        Checks.feed(house, 0, ESC + "[1m\n\n\n");
        Checks.same("DOWN with the PEN's attribute", Checks.attributes(house, 3), "5 5 5 5 5 5 5 5");
    }

    private static void cellsIn() {
        String place = "abcdefgh" + ESC + "[3G";
        draws("@", place + ESC + "[@", "ab cdefg", "2 0 0");
        draws("3 @", place + ESC + "[3@", "ab   cde", "2 0 0");
        draws("99 @", place + ESC + "[99@", "ab", "2 0 0");
        draws("P", place + ESC + "[P", "abdefgh", "2 0 0");
        draws("3 P", place + ESC + "[3P", "abfgh", "2 0 0");
        draws("99 P", place + ESC + "[99P", "ab", "2 0 0");
        PaneHouse house = Checks.house(8, 4, "abcdefgh" + ESC + "[4m" + ESC + "[3G" + ESC + "[2@" + ESC + "[2G" + ESC + "[P");
        Checks.same("@ and P with the PEN's attribute", Checks.attributes(house, 0), "0 2 2 0 0 0 0 2");
    }

    private static void pen(String what, String text, int due) {
        Checks.same(what + ": the PEN", Checks.house(8, 4, text).about(0, 8), due);
    }

    private static void pens() {
        pen("1", ESC + "[1m", 1);
        pen("4", ESC + "[4m", 2);
        pen("7", ESC + "[7m", 4);
        pen("22", ESC + "[1;4;7;22m", 6);
        pen("24", ESC + "[1;4;7;24m", 5);
        pen("27", ESC + "[1;4;7;27m", 3);
        for (int colour = 0; colour < 8; colour++) {
            pen("3" + colour, ESC + "[1;4" + colour + ";3" + colour + "m", 1 + 272 * (colour + 1));
        }
        pen("another colour", ESC + "[37;47;30;40m", 16 + 256);
        pen("39", ESC + "[37;47;39m", 256 * 8);
        pen("49", ESC + "[37;47;49m", 16 * 8);
        pen("0", ESC + "[1;37;0m", 0);
        pen("no number", ESC + "[1;37m" + ESC + "[m", 0);
        pen("others", ESC + "[1;2;38;48m" + ESC + "[29;50;99m", 1);
        pen("m with ?", ESC + "[1m" + ESC + "[?0m", 1);
    }

    private static void modes() {
        draws("INSERT mode", "abcdefgh\r" + ESC + "[4hXY", "XYabcdef", "2 0 0");
        draws("INSERT mode off", "abcdefgh\r" + ESC + "[4hX" + ESC + "[4lY", "XYbcdefg", "2 0 0");
        draws("INSERT mode in the last column", "abcdefgh" + ESC + "[8G" + ESC + "[4hX", "abcdefgX", "7 0 1");
        draws("4 as the second number", "ab\r" + ESC + "[1;4hX", "Xb", "1 0 0");
        draws("4 with ?", "ab\r" + ESC + "[?4hX", "Xb", "1 0 0");
        draws("7 without ?", ESC + "[7labcdefghi", "abcdefgh/i", "1 1 0");
        PaneHouse house = Checks.house(8, 4, ESC + "[25l" + ESC + "[?7;25l" + ESC + "[?24l");
        Checks.same("25 is the first number, with ?", house.count(4), 1);
        Checks.feed(house, 0, ESC + "[?25;1l");
        Checks.same("not seen", house.count(4), 0);
        Checks.feed(house, 0, ESC + "[?25h");
        Checks.same("seen", house.count(4), 1);
    }

    private static void questionMarks() {
        String[] between = {"!", "0", "2", ";", " ", "<", ">", "\u0000", "\u007f", "\u00ff", "!?", "!\b", "\b!"};
        for (String other : between) {
            PaneHouse house = Checks.house(20, 7, ESC + "[" + other + "?25l");
            Checks.same("? not at once: seen", house.count(4), 1);
            Checks.feed(house, 0, "x");
            Checks.same("? not at once: ended", house.cell(house.count(2) - 1, house.count(3), false), 'x');
        }
        for (String other : new String[] {"!", "?", "\b", "\t", "\n", "\r", "\u0000", "\u00ff"}) {
            Checks.same("? at once: not seen", Checks.house(20, 7, ESC + "[?" + other + "25l").count(4), 0);
        }
        for (String acting : new String[] {"\b", "\t", "\n", "\r", "\b\t\n\r"}) {
            Checks.same("the sequence goes on as it was", Checks.house(20, 7, ESC + "[" + acting + "?25l").count(4), 0);
        }
        draws("bytes that act before the ?", "abc" + ESC + "[\b\n\r\t?7lXY", "abc/       Y", "7 1 0");
        draws("a late ?, WRAP mode", ESC + "[!?7labcdefghi", "abcdefgh/i", "1 1 0");
        draws("a late ?, other cells", "ab" + ESC + "[\u0000?47hc", "abc", "3 0 0");
        draws("a late ?, INSERT mode", "ab\r" + ESC + "[!?4hX", "Xab", "1 0 0");
        draws("a late ?, moves", "abc" + ESC + "[ ?2Dx", "axc", "2 0 0");
        draws("each sequence by itself", "ab" + ESC + "[?1h" + ESC + "[2Dx", "xb", "1 0 0");
        draws("a sequence that another one cuts", "ab" + ESC + "[?" + ESC + "[2Dx", "xb", "1 0 0");
    }

    private static void otherCells() {
        draws("other cells", "ab" + ESC + "[?47hc", "  c", "3 0 0");
        draws("main cells again", "ab" + ESC + "[?47hc" + ESC + "[?47ld", "ab d", "4 0 0");
        draws("shown already", "ab" + ESC + "[?47hc" + ESC + "[?47hd", "  cd", "4 0 0");
        draws("main ones shown already", "ab" + ESC + "[?47lc", "abc", "3 0 0");
        draws("blank each time", "a" + ESC + "[?47hb" + ESC + "[?47l" + ESC + "[?47hc", "  c", "3 0 0");
        PaneHouse house = Checks.house(8, 4, ESC + "[42m" + ESC + "[2;3r" + ESC + "[2;3H" + ESC + "[?47h");
        Checks.same("attribute 0", Checks.attributes(house, 0), "0 0 0 0 0 0 0 0");
        Checks.same("the PEN stays", house.about(0, 8), 256 * 3);
        Checks.same("the cursor stays", Checks.cursor(house, 0), "2 1 0");
        Checks.feed(house, 0, ESC + "M");
        Checks.same("the REGION stays", Checks.attributes(house, 1), "768 768 768 768 768 768 768 768");
    }
}
