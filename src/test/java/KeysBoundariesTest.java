/** The document's sentences on keys, copies, the picture and OUT that name a boundary: each stands above its own test. */
final class KeysBoundariesTest {
    private static final String ESC = Checks.ESC;
    private static final String SIX = "1a\r\n2b\r\n3c\r\n4d\r\n5e\r\n6f";

    public static void main(String[] args) {
        prefix();
        nextGreaterNumber();
        whatCanNotBeDone();
        othersBehindThePrefix();
        prefixToThePane();
        keysInCopyMode();
        latest64();
        cutOrWithBlanksBehind();
        offsetWhenItBegins();
        offsetAtMostTheHistory();
        offsetOfLessHistory();
        offsetMoreThanTheRows();
        cursorNotSeen();
        pastesNothing();
        pastesInCopyMode();
        bothPlacesWithIt();
        blanksAtTheEnd();
        tenBetweenRows();
        at400();
        bordersOfThePicture();
        outerScreenAtFirst();
        outerPen();
        outerCursorNowhere();
        cursorAtTheEnd();
        seenAndNot();
        throwsChangeNothing();
        Checks.end();
    }

    /** "2 is the PREFIX" */
    private static void prefix() {
        PaneHouse house = new PaneHouse(8, 4);
        for (int k = 0; k < 256; k++) {
            if (k != 2) {
                int before = house.about(0, 10);
                house.key(k);
                Checks.same("key " + k + " goes to the FOCUS", house.about(0, 10), before + 1);
            }
        }
        Checks.same("one pane", house.count(0), 1);
        house.key(2);
        Checks.same("the prefix does not", house.about(0, 10), 255);
    }

    /** "o gives the FOCUS to the next greater number (from the last one to the first)" */
    private static void nextGreaterNumber() {
        PaneHouse house = new PaneHouse(40, 16);
        Checks.same("the only one", Checks.command(house, 'o'), 0);
        for (int i = 1; i < 8; i++) {
            house.split(i - 1, i % 2 == 0);
        }
        Checks.same("from 7", Checks.command(house, 'o'), 0);
        Checks.same("from 0", Checks.command(house, 'o'), 1);
        house.close(0);
        house.close(2);
        house.close(3);
        house.close(7);
        Checks.same("over a gap", Checks.command(house, 'o'), 4);
        house.focus(6);
        Checks.same("from the last one to the first", Checks.command(house, 'o'), 1);
    }

    /** "(What can't be done does nothing.)" */
    private static void whatCanNotBeDone() {
        PaneHouse house = new PaneHouse(8, 4);
        String before = Checks.state(house);
        Checks.command(house, 'x');
        Checks.same("x of the only one", Checks.state(house), before);
        house.split(0, true);
        house.focus(0);
        before = Checks.state(house);
        Checks.command(house, '"');
        Checks.same("\" in one row", Checks.state(house), before);
        Checks.same("and the prefix is over", house.key('"'), 0);
        Checks.same("as INPUT", Checks.input(house, 0), "\"");
    }

    /** "others do nothing" */
    private static void othersBehindThePrefix() {
        PaneHouse house = new PaneHouse(8, 4);
        String before = Checks.state(house);
        for (int k = 0; k < 256; k++) {
            if ("\"%ox[]\u0002".indexOf(k) < 0) {
                house.key(2);
                house.key(k);
                Checks.same("a prefix and " + k, Checks.state(house), before);
            }
        }
    }

    /** "2 goes to it (as INPUT, in COPY mode, too)" */
    private static void prefixToThePane() {
        PaneHouse house = new PaneHouse(8, 4);
        Checks.keys(house, "\u0002\u0002\u0002\u0002\u0002");
        Checks.same("two of five", Checks.input(house, 0), "\u0002\u0002");
        Checks.command(house, '[');
        Checks.same("the fifth one was a prefix", house.about(0, 9), 0);
        Checks.same("and [ INPUT behind it", Checks.input(house, 0), "\u0002\u0002\u0002[");
        Checks.command(house, '[');
        Checks.command(house, '\u0002');
        Checks.same("in COPY mode", Checks.input(house, 0), "\u0002\u0002\u0002[\u0002");
    }

    /** "in its COPY mode k and j go one row up, down, q ends it, others do nothing" */
    private static void keysInCopyMode() {
        PaneHouse house = Checks.house(8, 4, SIX);
        house.copy(0, true, 1);
        String before = Checks.state(house);
        for (int k = 0; k < 256; k++) {
            if ("\u0002kjq".indexOf(k) < 0) {
                house.key(k);
                Checks.same("key " + k, Checks.state(house), before);
            }
        }
        Checks.keys(house, "kk");
        Checks.same("k at the oldest row", house.copy(0, true, 0), 2);
        Checks.keys(house, "j");
        Checks.same("j below it", house.copy(0, true, 0), 1);
        Checks.keys(house, "jjk");
        Checks.same("j at the end", house.copy(0, true, 0), 1);
        Checks.keys(house, "qqk");
        Checks.same("q ended it", Checks.input(house, 0), "qk");
    }

    /** "What goes to a pane is its INPUT (the latest 64 bytes are told)." */
    private static void latest64() {
        for (int n : new int[] {1, 63, 64, 65, 127, 128, 129}) {
            PaneHouse house = new PaneHouse(8, 4);
            for (int i = 0; i < n; i++) {
                house.key(i + 50);
            }
            int told = Math.min(n, 64);
            Checks.same("bytes ever of " + n, house.about(0, 10), n);
            Checks.same("told of " + n, Checks.input(house, 0).length(), told);
            Checks.same("the oldest of " + n, house.input(0, 0), n - told + 50);
            Checks.same("the latest of " + n, house.input(0, told - 1), n + 49);
            Checks.refuses("one more of " + n, house, Checks.INDEX, () -> house.input(0, told));
        }
    }

    /** "rows of its HISTORY (as long as they were when they went away: cut, or with blanks of attribute 0 behind)" */
    private static void cutOrWithBlanksBehind() {
        PaneHouse house = Checks.house(8, 4, ESC + "[42mabcdefgh" + ESC + "[S");
        house.split(0, false);
        house.copy(0, true, 1);
        Checks.same("cut", Checks.row(house, 0), "abc|    ");
        Checks.feed(house, 0, ESC + "[Hxyz" + ESC + "[S");
        house.close(1);
        Checks.same("blanks behind", Checks.row(house, 0), "xyz     ");
        Checks.same("of attribute 0", Checks.attributes(house, 0), "768 768 768 0 0 0 0 0");
        house.copy(0, true, 1);
        Checks.same("nothing was lost", Checks.row(house, 0), "abcdefgh");
        Checks.same("nor its attributes", Checks.attributes(house, 0), "768 768 768 768 768 768 768 768");
        Checks.same("COPIED with it", house.select(0, 0, 0, 1, 7), 12);
    }

    /** "OFFSET rows above (0 when it begins" */
    private static void offsetWhenItBegins() {
        PaneHouse house = Checks.house(8, 4, SIX);
        house.copy(0, true, 2);
        Checks.keys(house, "q");
        Checks.same("behind q", house.copy(0, true, 0), 0);
        house.copy(0, true, 2);
        Checks.command(house, '[');
        Checks.command(house, '[');
        Checks.same("behind [ and [", house.copy(0, true, 0), 0);
        house.copy(0, true, 2);
        house.copy(0, false, 0);
        Checks.same("behind copy", house.copy(0, true, 0), 0);
    }

    /** "at most the rows of the HISTORY" */
    private static void offsetAtMostTheHistory() {
        PaneHouse none = Checks.house(8, 4, "a");
        Checks.same("no HISTORY", none.copy(0, true, 1), 0);
        PaneHouse house = Checks.house(8, 4, SIX);
        Checks.same("1 of 2", house.copy(0, true, 1), 1);
        Checks.same("2 of 2", house.copy(0, true, 1), 2);
        Checks.same("3 of 2", house.copy(0, true, 1), 2);
        Checks.keys(house, "k");
        Checks.feed(house, 0, "\r\n7g\r\n8h");
        Checks.same("what was too far does not count later", house.copy(0, true, 0), 2);
        PaneHouse full = Checks.house(8, 4, "");
        for (int i = 0; i < 9; i++) {
            Checks.feed(full, 0, ESC + "[4S");
        }
        Checks.same("30 of 30", full.copy(0, true, 30), 30);
        Checks.same("31 of 30", full.copy(0, true, 1), 30);
    }

    /** "also when that is less by then" */
    private static void offsetOfLessHistory() {
        PaneHouse house = Checks.house(8, 4, SIX);
        house.copy(0, true, 2);
        Checks.feed(house, 0, ESC + "cnew");
        Checks.same("what it shows", Checks.row(house, 0), "new     ");
        Checks.same("COPIED", house.select(0, 0, 0, 0, 7), 3);
        Checks.same("its OFFSET", house.copy(0, true, 0), 0);
        PaneHouse key = Checks.house(8, 4, SIX);
        key.copy(0, true, 2);
        Checks.feed(key, 0, ESC + "cA\r\nB\r\nC\r\nD\r\nE");
        Checks.same("one row of HISTORY", Checks.row(key, 0), "A       ");
        Checks.keys(key, "j");
        Checks.same("j from there", Checks.row(key, 0), "B       ");
    }

    /** "COPY mode shows rows of its HISTORY ... and its cells: OFFSET rows above": as many as the pane has, and more. */
    private static void offsetMoreThanTheRows() {
        PaneHouse house = Checks.house(8, 4, SIX + "\r\n7g\r\n8h\r\n9i");
        house.copy(0, true, 3);
        Checks.same("one row of cells", Checks.rows(house), "3c      /4d      /5e      /6f      ");
        house.copy(0, true, 1);
        Checks.same("no row of cells", Checks.rows(house), "2b      /3c      /4d      /5e      ");
        house.copy(0, true, 1);
        Checks.same("the oldest rows", Checks.rows(house), "1a      /2b      /3c      /4d      ");
    }

    /** "the cursor is not seen" */
    private static void cursorNotSeen() {
        PaneHouse house = Checks.house(8, 4, SIX);
        house.copy(0, true, 0);
        Checks.same("in COPY mode", house.count(4), 0);
        Checks.feed(house, 0, ESC + "[?25h");
        Checks.same("though it is told to be", house.count(4), 0);
        Checks.keys(house, "q");
        Checks.same("behind it", house.count(4), 1);
        Checks.feed(house, 0, ESC + "[?25l");
        house.copy(0, true, 0);
        house.copy(0, false, 0);
        Checks.same("not seen before", house.count(4), 0);
    }

    /** "PASTES: what is COPIED goes to the FOCUS as INPUT": nothing, if nothing is. */
    private static void pastesNothing() {
        PaneHouse house = new PaneHouse(8, 4);
        Checks.command(house, ']');
        Checks.same("nothing was COPIED", house.about(0, 10), 0);
        Checks.feed(house, 0, "ab");
        house.select(0, 0, 0, 0, 1);
        house.select(0, 1, 0, 1, 7);
        Checks.command(house, ']');
        Checks.same("blanks alone", house.about(0, 10), 0);
    }

    /** "(in COPY mode, too), byte by byte": q, k, j and 2 in it command nothing. */
    private static void pastesInCopyMode() {
        PaneHouse house = Checks.house(8, 4, SIX + "\rqkj[x");
        house.copy(0, true, 1);
        house.copy(0, true, -1);
        house.select(0, 3, 0, 3, 7);
        house.copy(0, true, 1);
        Checks.command(house, ']');
        Checks.same("INPUT", Checks.input(house, 0), "qkj[x");
        Checks.same("still in COPY mode", house.about(0, 9), 1);
        Checks.same("with its OFFSET", house.copy(0, true, 0), 1);
    }

    /** "from one place to another one (both with it), row by row (whole rows between)" */
    private static void bothPlacesWithIt() {
        PaneHouse house = Checks.house(8, 4, "abcdefgh\r\nijklmnop\r\nqrstuvwx\r\nyz012345");
        copies(house, 0, 0, 0, 0, "a");
        copies(house, 3, 7, 3, 7, "5");
        copies(house, 1, 2, 1, 3, "kl");
        copies(house, 0, 7, 1, 0, "h\ni");
        copies(house, 0, 7, 2, 0, "h\nijklmnop\nq");
        copies(house, 0, 0, 3, 7, "abcdefgh\nijklmnop\nqrstuvwx\nyz012345");
    }

    private static void copies(PaneHouse house, int row, int column, int toRow, int toColumn, String due) {
        Checks.same("how many", house.select(0, row, column, toRow, toColumn), due.length());
        Checks.same("COPIED", Checks.copied(house), due);
        Checks.same("bytes", house.count(5), due.length());
    }

    /** "each row without the blanks at its end" */
    private static void blanksAtTheEnd() {
        PaneHouse house = Checks.house(8, 4, "  ab  cd\r\n e\r\n\r\n" + ESC + "[41mf  ");
        copies(house, 0, 0, 0, 7, "  ab  cd");
        copies(house, 0, 0, 0, 5, "  ab");
        copies(house, 0, 0, 0, 1, "");
        copies(house, 0, 2, 1, 0, "ab  cd\n");
        copies(house, 1, 0, 1, 7, " e");
        copies(house, 1, 2, 3, 7, "\n\nf");
        copies(house, 2, 0, 2, 7, "");
    }

    /** "10 between rows": not behind the last one. */
    private static void tenBetweenRows() {
        PaneHouse house = Checks.house(8, 4, "a");
        copies(house, 0, 0, 0, 7, "a");
        copies(house, 0, 0, 1, 0, "a\n");
        copies(house, 0, 0, 3, 7, "a\n\n\n");
        copies(house, 1, 0, 3, 7, "\n\n");
    }

    /** "400 bytes at most (those behind are lost)" */
    private static void at400() {
        PaneHouse house = new PaneHouse(40, 16);
        for (int i = 0; i < 16; i++) {
            Checks.feed(house, 0, "abcdefghijklmnopqrstuvwxyzABCDEFGHIJKLMN");
        }
        Checks.same("399", house.select(0, 0, 0, 9, 29), 399);
        Checks.same("400", house.select(0, 0, 0, 9, 30), 400);
        Checks.same("the last one", house.copied(399), 'E');
        Checks.same("401", house.select(0, 0, 0, 9, 31), 400);
        Checks.same("the same last one", house.copied(399), 'E');
        Checks.refuses("no byte 400", house, Checks.INDEX, () -> house.copied(400));
        Checks.same("a 10 at the end", house.select(0, 0, 10, 10, 9), 400);
        Checks.same("is there", house.copied(399), 10);
        Checks.same("behind the end", house.select(0, 0, 9, 10, 9), 400);
        Checks.same("is lost", house.copied(399), 'N');
    }

    /** "borders are | and - with attribute 0" */
    private static void bordersOfThePicture() {
        PaneHouse house = Checks.house(8, 4, ESC + "[41m" + ESC + "[2J");
        house.split(0, false);
        house.split(1, true);
        Checks.feed(house, 1, ESC + "[42m" + ESC + "[2J");
        Checks.feed(house, 2, ESC + "[43m" + ESC + "[2J");
        Checks.same("first row", Checks.row(house, 0) + Checks.attributes(house, 0), "   |    512 512 512 0 768 768 768 768");
        Checks.same("border", Checks.row(house, 1) + Checks.attributes(house, 1), "   |----512 512 512 0 0 0 0 0");
        Checks.same("last row", Checks.row(house, 3) + Checks.attributes(house, 3), "   |    512 512 512 0 1024 1024 1024 1024");
    }

    /** "(all blank at first, its cursor at 0, 0 and seen, its PEN 0)" */
    private static void outerScreenAtFirst() {
        Checks.same("blank, 0, 0, seen", Checks.redrawn(new PaneHouse(8, 4)), "");
        Checks.same("a byte at 0, 0 with PEN 0", Checks.redrawn(Checks.house(8, 4, "a")), "a");
        Checks.same("a blank with an attribute", Checks.redrawn(Checks.house(8, 4, ESC + "[40m ")), ESC + "[0;40m ");
        Checks.same("not at 0, 0", Checks.redrawn(Checks.house(8, 4, " a")), ESC + "[1;2Ha");
        Checks.same("not seen", Checks.redrawn(Checks.house(8, 4, ESC + "[?25l")), ESC + "[?25l");
        Checks.same("the last place", Checks.redrawn(Checks.house(40, 16, ESC + "[16;40H")), ESC + "[16;40H");
        Checks.same("two digits", Checks.redrawn(Checks.house(40, 16, ESC + "[9;10H")), ESC + "[9;10H");
    }

    /** "if the outer PEN is not its attribute: 27 [ 0, and ;1 ;4 ;7 ;3c ;4c as they are, m" */
    private static void outerPen() {
        String[] pens = {"1", "4", "7", "30", "37", "40", "47", "1;4", "1;7", "4;7", "1;4;7", "7;30", "30;40", "1;37;47", "4;7;35;42"};
        PaneHouse house = new PaneHouse(40, 4);
        for (String pen : pens) {
            Checks.feed(house, 0, ESC + "[m" + ESC + "[" + pen + "mxy");
            Checks.same("PEN " + pen, Checks.redrawn(house), ESC + "[0;" + pen + "mxy");
        }
        Checks.feed(house, 0, ESC + "[mz");
        Checks.same("PEN 0", Checks.redrawn(house), ESC + "[0mz");
    }

    /** "Behind the last column it is nowhere." */
    private static void outerCursorNowhere() {
        PaneHouse house = Checks.house(8, 4, "abcdefghi");
        Checks.same("the next row needs a move", Checks.redrawn(house), "abcdefgh" + ESC + "[2;1Hi");
        PaneHouse last = Checks.house(8, 4, ESC + "[4;8Hx");
        Checks.same("the last cell", Checks.redrawn(last), ESC + "[4;8Hx" + ESC + "[4;8H");
        Checks.feed(last, 0, ESC + "[?25l" + ESC + "[4;8Hy");
        Checks.same("the cursor was there", Checks.redrawn(last), "y" + ESC + "[?25l");
        Checks.feed(last, 0, ESC + "[4;8Hz");
        Checks.same("it is nowhere still", Checks.redrawn(last), ESC + "[4;8Hz");
        PaneHouse before = Checks.house(8, 4, "abcdefg");
        Checks.same("before the last column it is there", Checks.redrawn(before), "abcdefg");
    }

    /** "At the end: if the cursor is seen, and the outer one is not there: 27 [ row ; column H" */
    private static void cursorAtTheEnd() {
        PaneHouse house = Checks.house(8, 4, "ab" + ESC + "[4;8H");
        Checks.same("not there", Checks.redrawn(house), "ab" + ESC + "[4;8H");
        Checks.same("there", Checks.redrawn(house), "");
        Checks.feed(house, 0, ESC + "[?25l" + ESC + "[H");
        Checks.same("not seen", Checks.redrawn(house), ESC + "[?25l");
        Checks.feed(house, 0, "c");
        Checks.same("not seen, with a cell", Checks.redrawn(house), ESC + "[1;1Hc");
        Checks.feed(house, 0, ESC + "[?25h");
        Checks.same("seen where the outer one is", Checks.redrawn(house), ESC + "[?25h");
    }

    /** "if one of both is seen, the other one not: 27 [ ? 2 5 h or l" */
    private static void seenAndNot() {
        PaneHouse house = Checks.house(8, 4, ESC + "[?25l");
        Checks.same("not seen", Checks.redrawn(house), ESC + "[?25l");
        Checks.same("both not", Checks.redrawn(house), "");
        Checks.feed(house, 0, ESC + "[?25h");
        Checks.same("seen", Checks.redrawn(house), ESC + "[?25h");
        Checks.same("both", Checks.redrawn(house), "");
        Checks.feed(house, 0, ESC + "[?25l" + ESC + "[?25h");
        Checks.same("there and back", Checks.redrawn(house), "");
    }

    /** "A call that throws changes nothing; of several exceptions the one named first is thrown." */
    private static void throwsChangeNothing() {
        PaneHouse house = Checks.house(8, 4, SIX + ESC + "[3;");
        house.key('a');
        house.select(0, 0, 0, 1, 7);
        house.redraw();
        Checks.refuses("feed: pane before n", house, Checks.INDEX, () -> house.feed(1, 65, 0));
        Checks.refuses("feed: n", house, Checks.ARGUMENT, () -> house.feed(0, 65, 0));
        Checks.refuses("key", house, Checks.ARGUMENT, () -> house.key(256));
        Checks.refuses("split", house, Checks.INDEX, () -> house.split(1, true));
        Checks.refuses("close: pane before the only one", house, Checks.INDEX, () -> house.close(1));
        Checks.refuses("close: the only one", house, Checks.STATE, () -> house.close(0));
        Checks.refuses("focus", house, Checks.INDEX, () -> house.focus(1));
        Checks.refuses("copy", house, Checks.INDEX, () -> house.copy(1, true, 1));
        Checks.refuses("select: pane before the places", house, Checks.INDEX, () -> house.select(1, 9, 9, 0, 0));
        Checks.refuses("select: place before their order", house, Checks.INDEX, () -> house.select(0, 4, 0, 0, 0));
        Checks.refuses("select: second place before their order", house, Checks.INDEX, () -> house.select(0, 1, 0, 0, 8));
        Checks.refuses("select: their order", house, Checks.ARGUMENT, () -> house.select(0, 1, 0, 0, 7));
        Checks.refuses("about: pane before what", house, Checks.INDEX, () -> house.about(1, 11));
        Checks.refuses("about: what", house, Checks.ARGUMENT, () -> house.about(0, 11));
        Checks.refuses("count", house, Checks.ARGUMENT, () -> house.count(6));
        Checks.same("COPIED stays", Checks.copied(house), "3c\n4d");
        Checks.same("the sequence goes on", redrawnBehind(house, "2HX"), ESC + "[3;2HX");
    }

    private static String redrawnBehind(PaneHouse house, String text) {
        Checks.feed(house, 0, text);
        return Checks.redrawn(house);
    }
}
