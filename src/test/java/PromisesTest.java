/** One method for each promise of the document: ordinary inputs, the edges that it names, wrong inputs. */
final class PromisesTest {
    private static final String ESC = Checks.ESC;

    public static void main(String[] args) {
        newObject();
        feed();
        key();
        split();
        close();
        focus();
        copy();
        select();
        redraw();
        out();
        cell();
        about();
        input();
        copied();
        count();
        Checks.same("NONE", PaneHouse.NONE, -1);
        Checks.end();
    }

    private static void newObject() {
        size(8, 4, "0 0 8 4");
        size(40, 16, "0 0 40 16");
        size(23, 9, "0 0 23 9");
        size(7, 3, "0 0 8 4");
        size(41, 17, "0 0 40 16");
        size(Integer.MIN_VALUE, Integer.MAX_VALUE, "0 0 8 16");
        size(Integer.MAX_VALUE, Integer.MIN_VALUE, "0 0 40 4");
        PaneHouse house = new PaneHouse(8, 4);
        Checks.same("1: rows", Checks.rows(house), "        /        /        /        ");
        Checks.same("1: attributes", Checks.attributes(house, 3), "0 0 0 0 0 0 0 0");
        Checks.same("1: focus", house.count(1), 0);
        Checks.same("1: panes", house.count(0), 1);
        Checks.same("1: OUT", Checks.out(house), "");
        Checks.same("1: redraw()", house.redraw(), 0);
    }

    private static void size(int width, int height, String due) {
        PaneHouse house = new PaneHouse(width, height);
        Checks.same("1: area of " + width + ", " + height, Checks.area(house, 0), due);
        Checks.same("1: columns of " + width, Checks.width(house), house.about(0, 2));
        Checks.same("1: rows of " + height, Checks.height(house), house.about(0, 3));
    }

    private static void feed() {
        PaneHouse house = new PaneHouse(12, 4);
        house.feed(0, 0x6867666564636261L, 8);
        house.feed(0, 0x6867666564636261L, 2);
        Checks.same("2: lowest byte first", Checks.row(house, 0), "abcdefghab  ");
        house.feed(0, -1L, 8);
        house.feed(0, 0x4141414141414158L, 1);
        Checks.same("2: n bytes alone", Checks.row(house, 0), "abcdefghabX ");
        Checks.refuses("2: n = 0", house, Checks.ARGUMENT, () -> house.feed(0, 65, 0));
        Checks.refuses("2: n = 9", house, Checks.ARGUMENT, () -> house.feed(0, 65, 9));
        Checks.refuses("2: n = -1", house, Checks.ARGUMENT, () -> house.feed(0, 65, -1));
        Checks.refuses("2: pane 1", house, Checks.INDEX, () -> house.feed(1, 65, 1));
        Checks.refuses("2: pane -1 first", house, Checks.INDEX, () -> house.feed(-1, 65, 0));
        Checks.refuses("2: pane 8", house, Checks.INDEX, () -> house.feed(8, 65, 1));
        Checks.feed(house, 0, ESC + "[2;");
        Checks.refuses("2: within a sequence", house, Checks.ARGUMENT, () -> house.feed(0, 65, 9));
        Checks.feed(house, 0, "3HQ");
        Checks.same("2: the sequence goes on", Checks.row(house, 1), "  Q         ");
    }

    private static void key() {
        PaneHouse house = new PaneHouse(20, 8);
        Checks.same("3: key", house.key('a'), 0);
        Checks.same("3: split", Checks.command(house, '%'), 1);
        Checks.same("3: next", Checks.command(house, 'o'), 0);
        Checks.refuses("3: -1", house, Checks.ARGUMENT, () -> house.key(-1));
        Checks.refuses("3: 256", house, Checks.ARGUMENT, () -> house.key(256));
        Checks.same("3: prefix", house.key(2), 0);
        Checks.refuses("3: 256 behind a prefix", house, Checks.ARGUMENT, () -> house.key(256));
        Checks.same("3: the prefix is still there", house.key('o'), 1);
        house.key(0);
        house.key(255);
        Checks.same("3: edges", Checks.input(house, 1), "\u0000\u00ff");
        Checks.command(house, 'x');
        Checks.same("3: the only one stays", Checks.command(house, 'x'), 0);
        Checks.same("3: one pane", house.count(0), 1);
        for (int i = 0; i < 20; i++) {
            Checks.command(house, '"');
        }
        Checks.same("3: splits end", house.count(0), 3);
    }

    private static void split() {
        PaneHouse house = new PaneHouse(40, 16);
        Checks.same("4: split", house.split(0, true), 1);
        Checks.same("4: first area", Checks.area(house, 0), "0 0 40 7");
        Checks.same("4: second area", Checks.area(house, 1), "0 8 40 8");
        Checks.same("4: focus", house.count(1), 1);
        Checks.same("4: to the right", house.split(0, false), 2);
        Checks.same("4: first area", Checks.area(house, 0), "0 0 19 7");
        Checks.same("4: second area", Checks.area(house, 2), "20 0 20 7");
        Checks.same("4: focus", house.count(1), 2);
        for (int i = 3; i < 8; i++) {
            Checks.same("4: least free number", house.split(i % 3, i % 2 == 0), i);
        }
        Checks.refuses("4: there are 8", house, Checks.STATE, () -> house.split(0, false));
        Checks.refuses("4: pane 8 first", house, Checks.INDEX, () -> house.split(8, false));
        house.close(2);
        Checks.refuses("4: no pane 2", house, Checks.INDEX, () -> house.split(2, false));
        Checks.same("4: a number is free again", house.split(7, false), 2);
        PaneHouse low = new PaneHouse(8, 4);
        low.split(0, true);
        Checks.same("4: 4 rows", Checks.area(low, 0) + ", " + Checks.area(low, 1), "0 0 8 1, 0 2 8 2");
        Checks.refuses("4: 1 row", low, Checks.STATE, () -> low.split(0, true));
        Checks.refuses("4: 2 rows", low, Checks.STATE, () -> low.split(1, true));
        low.split(1, false);
        low.split(1, false);
        Checks.same("4: 3 columns", Checks.area(low, 1) + ", " + Checks.area(low, 3), "0 2 1 2, 2 2 1 2");
        Checks.refuses("4: pane -1", low, Checks.INDEX, () -> low.split(-1, false));
    }

    private static void close() {
        PaneHouse house = new PaneHouse(20, 10);
        Checks.refuses("5: the only one", house, Checks.STATE, () -> house.close(0));
        Checks.refuses("5: pane 1", house, Checks.INDEX, () -> house.close(1));
        house.split(0, true);
        house.split(1, false);
        Checks.same("5: another than the focus", house.close(0), 2);
        Checks.same("5: all of its area", Checks.area(house, 1), "0 0 9 10");
        Checks.same("5: all of its area", Checks.area(house, 2), "10 0 10 10");
        Checks.refuses("5: closed already", house, Checks.INDEX, () -> house.close(0));
        Checks.same("5: the focus", house.close(2), 1);
        Checks.same("5: alone", Checks.area(house, 1), "0 0 20 10");
        Checks.refuses("5: the only one", house, Checks.STATE, () -> house.close(1));
        Checks.refuses("5: pane -1", house, Checks.INDEX, () -> house.close(-1));
        Checks.refuses("5: pane 8", house, Checks.INDEX, () -> house.close(8));
    }

    private static void focus() {
        PaneHouse house = new PaneHouse(20, 10);
        house.split(0, true);
        house.focus(0);
        Checks.same("6: focus", house.count(1), 0);
        house.key('a');
        house.focus(1);
        house.key('b');
        Checks.same("6: keys go there", Checks.input(house, 0) + Checks.input(house, 1), "ab");
        Checks.refuses("6: pane 2", house, Checks.INDEX, () -> house.focus(2));
        Checks.refuses("6: pane -1", house, Checks.INDEX, () -> house.focus(-1));
        Checks.refuses("6: pane 8", house, Checks.INDEX, () -> house.focus(8));
        house.key(2);
        house.focus(0);
        Checks.same("6: a prefix stays", house.key('o'), 1);
    }

    private static void copy() {
        PaneHouse house = Checks.house(8, 4, "1\r\n2\r\n3\r\n4\r\n5\r\n6");
        Checks.same("7: off stays off", house.copy(0, false, 1), 0);
        Checks.same("7: not on", house.about(0, 9), 0);
        Checks.same("7: on", house.copy(0, true, 1), 1);
        Checks.same("7: on", house.about(0, 9), 1);
        Checks.same("7: what it shows", Checks.rows(house), "2       /3       /4       /5       ");
        Checks.same("7: on stays with its OFFSET", house.copy(0, true, 0), 1);
        Checks.same("7: as far as it can", house.copy(0, true, Integer.MAX_VALUE), 2);
        Checks.same("7: down", house.copy(0, true, -1), 1);
        Checks.same("7: as far as it can", house.copy(0, true, Integer.MIN_VALUE), 0);
        Checks.same("7: up", house.copy(0, true, 2), 2);
        Checks.same("7: ends", house.copy(0, false, 2), 0);
        Checks.same("7: ended", house.about(0, 9), 0);
        Checks.same("7: begins with 0", house.copy(0, true, 0), 0);
        Checks.refuses("7: pane 1", house, Checks.INDEX, () -> house.copy(1, true, 0));
        Checks.refuses("7: pane -1", house, Checks.INDEX, () -> house.copy(-1, false, 0));
        Checks.refuses("7: pane 8", house, Checks.INDEX, () -> house.copy(8, false, 0));
    }

    private static void select() {
        PaneHouse house = Checks.house(8, 4, "abc  de\r\n\r\n  xyz\r\n12345678");
        Checks.same("8: one row", house.select(0, 0, 1, 0, 6), 6);
        Checks.same("8: one row", Checks.copied(house), "bc  de");
        Checks.same("8: one cell", house.select(0, 0, 2, 0, 2), 1);
        Checks.same("8: blanks at the end", house.select(0, 0, 1, 0, 4), 2);
        Checks.same("8: blanks alone", house.select(0, 1, 0, 1, 7), 0);
        Checks.same("8: rows", house.select(0, 0, 5, 3, 0), 11);
        Checks.same("8: rows", Checks.copied(house), "de\n\n  xyz\n1");
        Checks.refuses("8: pane 1", house, Checks.INDEX, () -> house.select(1, 0, 0, 0, 0));
        Checks.refuses("8: pane -1", house, Checks.INDEX, () -> house.select(-1, 0, 0, 0, 0));
        Checks.refuses("8: pane 8", house, Checks.INDEX, () -> house.select(8, 0, 0, 0, 0));
        Checks.refuses("8: row -1", house, Checks.INDEX, () -> house.select(0, -1, 0, 0, 0));
        Checks.refuses("8: column -1", house, Checks.INDEX, () -> house.select(0, 0, -1, 0, 0));
        Checks.refuses("8: row 4", house, Checks.INDEX, () -> house.select(0, 4, 0, 0, 0));
        Checks.refuses("8: column 8", house, Checks.INDEX, () -> house.select(0, 0, 8, 0, 0));
        Checks.refuses("8: to row 4", house, Checks.INDEX, () -> house.select(0, 0, 0, 4, 0));
        Checks.refuses("8: to column 8", house, Checks.INDEX, () -> house.select(0, 0, 0, 0, 8));
        Checks.refuses("8: to row -1", house, Checks.INDEX, () -> house.select(0, 0, 0, -1, 0));
        Checks.refuses("8: to column -1", house, Checks.INDEX, () -> house.select(0, 0, 0, 0, -1));
        Checks.refuses("8: row before", house, Checks.ARGUMENT, () -> house.select(0, 1, 0, 0, 7));
        Checks.refuses("8: column before", house, Checks.ARGUMENT, () -> house.select(0, 1, 1, 1, 0));
        house.split(0, false);
        Checks.refuses("8: pane 0 is smaller", house, Checks.INDEX, () -> house.select(0, 0, 0, 0, 3));
        Checks.same("8: a pane's own rows", house.select(1, 0, 0, 3, 3), 3);
        Checks.same("8: a pane's own rows", Checks.copied(house), "\n\n\n");
        house.close(1);
        Checks.refuses("8: a closed pane", house, Checks.INDEX, () -> house.select(1, 0, 0, 0, 0));
        Checks.refuses("8: a closed pane first", house, Checks.INDEX, () -> house.select(1, 1, 0, 0, 0));
    }

    private static void redraw() {
        PaneHouse house = Checks.house(8, 4, "ab");
        Checks.same("9: bytes", house.redraw(), 2);
        Checks.same("9: OUT", Checks.out(house), "ab");
        Checks.same("9: nothing more", house.redraw(), 0);
        Checks.same("9: OUT", Checks.out(house), "");
        Checks.feed(house, 0, ESC + "[2;2Hc");
        Checks.same("9: OUT", Checks.redrawn(house), ESC + "[2;2Hc");
    }

    private static void out() {
        PaneHouse house = Checks.house(8, 4, "ab");
        Checks.refuses("10: before a redraw", house, Checks.INDEX, () -> house.out(0));
        house.redraw();
        Checks.same("10: out(0)", house.out(0), 'a');
        Checks.same("10: out(1)", house.out(1), 'b');
        Checks.refuses("10: out(2)", house, Checks.INDEX, () -> house.out(2));
        Checks.refuses("10: out(-1)", house, Checks.INDEX, () -> house.out(-1));
        Checks.feed(house, 0, "c");
        Checks.same("10: as it was redrawn", house.out(0), 'a');
    }

    private static void cell() {
        PaneHouse house = Checks.house(8, 4, ESC + "[4;31mX" + ESC + "[4;8HY");
        Checks.same("11: character", house.cell(0, 0, false), 'X');
        Checks.same("11: attribute", house.cell(0, 0, true), 2 + 16 * 2);
        Checks.same("11: last character", house.cell(7, 3, false), 'Y');
        Checks.same("11: blank", house.cell(1, 0, false), 32);
        Checks.same("11: attribute 0", house.cell(1, 0, true), 0);
        Checks.refuses("11: column 8", house, Checks.INDEX, () -> house.cell(8, 0, false));
        Checks.refuses("11: column -1", house, Checks.INDEX, () -> house.cell(-1, 0, true));
        Checks.refuses("11: row 4", house, Checks.INDEX, () -> house.cell(0, 4, false));
        Checks.refuses("11: row -1", house, Checks.INDEX, () -> house.cell(0, -1, true));
        house.split(0, false);
        Checks.same("11: border", house.cell(3, 3, false), '|');
        Checks.same("11: border", house.cell(3, 3, true), 0);
        Checks.feed(house, 1, "Q");
        Checks.same("11: the new pane", house.cell(4, 0, false), 'Q');
    }

    private static void about() {
        PaneHouse house = new PaneHouse(20, 9);
        house.split(0, false);
        house.split(1, true);
        Checks.feed(house, 2, "\n\n\n\n\n" + ESC + "[1;32m0123456789");
        house.copy(2, true, 1);
        house.focus(0);
        house.key('a');
        int[] due = {10, 5, 10, 4, 9, 3, 1, 2, 1 + 16 * 3, 1, 0};
        for (int what = 0; what < due.length; what++) {
            Checks.same("12: about(2, " + what + ")", house.about(2, what), due[what]);
        }
        Checks.same("12: INPUT", house.about(0, 10), 1);
        Checks.same("12: no COPY mode", house.about(0, 9), 0);
        Checks.refuses("12: 11", house, Checks.ARGUMENT, () -> house.about(0, 11));
        Checks.refuses("12: -1", house, Checks.ARGUMENT, () -> house.about(0, -1));
        Checks.refuses("12: pane 3 first", house, Checks.INDEX, () -> house.about(3, 11));
        Checks.refuses("12: pane -1", house, Checks.INDEX, () -> house.about(-1, 0));
    }

    private static void input() {
        PaneHouse house = new PaneHouse(8, 4);
        Checks.refuses("13: none yet", house, Checks.INDEX, () -> house.input(0, 0));
        for (int i = 0; i < 64; i++) {
            house.key(100 + i);
        }
        Checks.same("13: oldest of 64", house.input(0, 0), 100);
        Checks.same("13: latest of 64", house.input(0, 63), 163);
        house.key(200);
        Checks.same("13: oldest of 65", house.input(0, 0), 101);
        Checks.same("13: latest of 65", house.input(0, 63), 200);
        Checks.same("13: bytes ever", house.about(0, 10), 65);
        Checks.refuses("13: byte 64", house, Checks.INDEX, () -> house.input(0, 64));
        Checks.refuses("13: byte -1", house, Checks.INDEX, () -> house.input(0, -1));
        Checks.refuses("13: pane 1", house, Checks.INDEX, () -> house.input(1, 0));
        Checks.refuses("13: pane -1", house, Checks.INDEX, () -> house.input(-1, 0));
    }

    private static void copied() {
        PaneHouse house = Checks.house(8, 4, "ab");
        Checks.refuses("14: none yet", house, Checks.INDEX, () -> house.copied(0));
        house.select(0, 0, 0, 1, 0);
        Checks.same("14: copied(0)", house.copied(0), 'a');
        Checks.same("14: copied(1)", house.copied(1), 'b');
        Checks.same("14: copied(2)", house.copied(2), 10);
        Checks.refuses("14: copied(3)", house, Checks.INDEX, () -> house.copied(3));
        Checks.refuses("14: copied(-1)", house, Checks.INDEX, () -> house.copied(-1));
        house.select(0, 3, 0, 3, 0);
        Checks.refuses("14: nothing is copied", house, Checks.INDEX, () -> house.copied(0));
    }

    private static void count() {
        PaneHouse house = new PaneHouse(20, 9);
        house.split(0, false);
        house.split(1, true);
        Checks.feed(house, 2, "abc\r\nde");
        house.select(2, 0, 0, 1, 9);
        int[] due = {3, 2, 12, 6, 1, 6};
        for (int what = 0; what < due.length; what++) {
            Checks.same("15: count(" + what + ")", house.count(what), due[what]);
        }
        Checks.feed(house, 2, ESC + "[?25l");
        Checks.same("15: not seen", house.count(4), 0);
        Checks.feed(house, 2, ESC + "[?25h");
        house.copy(2, true, 0);
        Checks.same("15: not seen in COPY mode", house.count(4), 0);
        house.focus(0);
        Checks.same("15: another pane's is seen", house.count(4), 1);
        Checks.refuses("15: 6", house, Checks.ARGUMENT, () -> house.count(6));
        Checks.refuses("15: -1", house, Checks.ARGUMENT, () -> house.count(-1));
    }
}
