/** The terms KEYS, INPUT, COPY mode, PASTES and COPIED. */
final class KeysAndCopiesTest {
    private static final String ESC = Checks.ESC;
    private static final String SIX = "1a\r\n2b\r\n3c\r\n4d\r\n5e\r\n6f";

    public static void main(String[] args) {
        layoutKeys();
        inputKeys();
        copyModeKeys();
        copyModeView();
        pasting();
        copying();
        Checks.end();
    }

    private static void layoutKeys() {
        PaneHouse house = new PaneHouse(20, 9);
        Checks.same("\"", Checks.command(house, '"'), 1);
        Checks.same("down", Checks.area(house, 1), "0 5 20 4");
        Checks.same("%", Checks.command(house, '%'), 2);
        Checks.same("to the right", Checks.area(house, 2), "10 5 10 4");
        Checks.same("o from the last one", Checks.command(house, 'o'), 0);
        Checks.same("o", Checks.command(house, 'o'), 1);
        Checks.same("x", Checks.command(house, 'x'), 0);
        Checks.same("o over a gap", Checks.command(house, 'o'), 2);
        Checks.same("others", Checks.command(house, 'O') + Checks.command(house, '\0') + Checks.command(house, 'q'), 6);
        Checks.same("no INPUT", house.about(2, 10), 0);
        Checks.same("a key alone", Checks.keys(house, "\"%ox[]"), 2);
        Checks.same("INPUT", Checks.input(house, 2), "\"%ox[]");
    }

    private static void inputKeys() {
        PaneHouse house = new PaneHouse(20, 9);
        Checks.keys(house, "a\u0002\u0002b\u0002zc");
        Checks.same("INPUT", Checks.input(house, 0), "a\u0002bc");
        house.copy(0, true, 0);
        Checks.keys(house, "d\u0002\u0002jk");
        Checks.same("INPUT in COPY mode", Checks.input(house, 0), "a\u0002bc\u0002");
    }

    private static void copyModeKeys() {
        PaneHouse house = Checks.house(8, 4, SIX);
        Checks.command(house, '[');
        Checks.same("begins", house.about(0, 9), 1);
        Checks.keys(house, "k");
        Checks.same("k", house.copy(0, true, 0), 1);
        Checks.keys(house, "kkk");
        Checks.same("k at the top", house.copy(0, true, 0), 2);
        Checks.keys(house, "jx!");
        Checks.same("j", house.copy(0, true, 0), 1);
        Checks.keys(house, "jj");
        Checks.same("j at the bottom", house.copy(0, true, 0), 0);
        Checks.keys(house, "kq");
        Checks.same("q ends it", house.about(0, 9), 0);
        Checks.command(house, '[');
        Checks.same("begins with 0", house.copy(0, true, 0), 0);
        Checks.command(house, '[');
        Checks.same("[ ends it", house.about(0, 9), 0);
        Checks.same("no INPUT", house.about(0, 10), 0);
        Checks.keys(house, "q");
        Checks.same("INPUT again", Checks.input(house, 0), "q");
    }

    private static void copyModeView() {
        PaneHouse house = Checks.house(8, 4, ESC + "[1m" + SIX);
        house.copy(0, true, 2);
        Checks.same("above", Checks.rows(house), "1a      /2b      /3c      /4d      ");
        Checks.same("attributes", Checks.attributes(house, 0), "1 1 0 0 0 0 0 0");
        Checks.same("not seen", house.count(4), 0);
        house.copy(0, true, -1);
        Checks.same("between", Checks.rows(house), "2b      /3c      /4d      /5e      ");
        Checks.feed(house, 0, "\r\n7g");
        Checks.same("the OFFSET stays", Checks.rows(house), "3c      /4d      /5e      /6f      ");
        Checks.feed(house, 0, ESC + "[?47h");
        Checks.same("other cells below", Checks.row(house, 0) + Checks.row(house, 1), "3c              ");
        PaneHouse cut = Checks.house(8, 4, ESC + "[41m" + "abcdefgh\n\n\n\n");
        cut.split(0, false);
        cut.copy(0, true, 1);
        Checks.same("cut", Checks.row(cut, 0), "abc|    ");
        Checks.feed(cut, 0, ESC + "[Hxyz" + ESC + "[4H\n");
        cut.close(1);
        Checks.same("as long as they were", Checks.row(cut, 0), "xyz     ");
        Checks.same("with blanks of attribute 0", Checks.attributes(cut, 0), "512 512 512 0 0 0 0 0");
        cut.copy(0, true, 1);
        Checks.same("as long as they were", Checks.row(cut, 0), "abcdefgh");
    }

    private static void pasting() {
        PaneHouse house = Checks.house(40, 16, "ab  \r\ncd");
        Checks.command(house, ']');
        Checks.same("nothing is COPIED", house.about(0, 10), 0);
        house.select(0, 0, 0, 1, 1);
        house.split(0, true);
        Checks.command(house, ']');
        Checks.same("to the FOCUS", Checks.input(house, 1), "ab\ncd");
        house.copy(1, true, 0);
        Checks.command(house, ']');
        Checks.same("in COPY mode, too", Checks.input(house, 1), "ab\ncdab\ncd");
        Checks.same("ever", house.about(1, 10), 10);
        Checks.same("to no other one", house.about(0, 10), 0);
        house.close(0);
        Checks.same("COPIED stays", Checks.copied(house), "ab\ncd");
    }

    private static void copying() {
        PaneHouse house = Checks.house(8, 4, SIX);
        house.copy(0, true, 2);
        house.select(0, 0, 1, 2, 7);
        Checks.same("what COPY mode shows", Checks.copied(house), "a\n2b\n3c");
        house.copy(0, false, 0);
        house.select(0, 0, 1, 2, 7);
        Checks.same("its cells", Checks.copied(house), "c\n4d\n5e");
        Checks.feed(house, 0, ESC + "[H" + ESC + "[7mx  ");
        house.select(0, 0, 0, 0, 7);
        Checks.same("blanks with an attribute", Checks.copied(house), "x");
        PaneHouse large = new PaneHouse(40, 16);
        for (int i = 0; i < 16; i++) {
            Checks.feed(large, 0, "0123456789012345678901234567890123456789");
        }
        Checks.same("400 at most", large.select(0, 0, 0, 15, 39), 400);
        Checks.same("the first ones", large.copied(399), '0' + (399 - 9 * 41) % 10);
        Checks.same("10 between rows", large.copied(40), 10);
        Checks.command(large, ']');
        Checks.same("all go", large.about(0, 10), 400);
        Checks.same("the latest 64", large.input(0, 0), large.copied(336));
    }
}
