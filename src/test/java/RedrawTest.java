/** REDRAWN: the bytes of OUT. */
final class RedrawTest {
    private static final String ESC = Checks.ESC;

    public static void main(String[] args) {
        positions();
        pens();
        cursors();
        borders();
        largest();
        Checks.end();
    }

    private static void positions() {
        PaneHouse house = Checks.house(12, 12, "a b" + ESC + "[2;12Hc\r\nd" + ESC + "[10;10He" + ESC + "[H");
        Checks.same("cells that are others", Checks.redrawn(house),
                "a" + ESC + "[1;3Hb" + ESC + "[2;12Hc" + ESC + "[3;1Hd" + ESC + "[10;10He" + ESC + "[1;1H");
        Checks.feed(house, 0, "a b" + ESC + "[H");
        Checks.same("the same again", Checks.redrawn(house), "");
        Checks.feed(house, 0, ESC + "[2J");
        Checks.same("blanks", Checks.redrawn(house),
                " " + ESC + "[1;3H " + ESC + "[2;12H " + ESC + "[3;1H " + ESC + "[10;10H " + ESC + "[1;1H");
        PaneHouse full = Checks.house(8, 4, "abcdefgh");
        Checks.same("nowhere behind the last column", Checks.redrawn(full), "abcdefgh" + ESC + "[1;8H");
        PaneHouse hidden = Checks.house(8, 4, ESC + "[?25labcdefgh");
        Checks.same("nowhere, not seen", Checks.redrawn(hidden), "abcdefgh" + ESC + "[?25l");
        Checks.feed(hidden, 0, "i");
        Checks.same("still nowhere", Checks.redrawn(hidden), ESC + "[2;1Hi");
        Checks.feed(hidden, 0, "j");
        Checks.same("the outer cursor is there", Checks.redrawn(hidden), "j");
    }

    private static void pens() {
        PaneHouse house = Checks.house(40, 4, ESC + "[1ma" + ESC + "[4mb" + ESC + "[7mc" + ESC + "[37md" + ESC + "[40me");
        Checks.same("PENs", Checks.redrawn(house), ESC + "[0;1ma" + ESC + "[0;1;4mb" + ESC + "[0;1;4;7mc" + ESC
                + "[0;1;4;7;37md" + ESC + "[0;1;4;7;37;40me");
        Checks.feed(house, 0, "f");
        Checks.same("the outer PEN stays", Checks.redrawn(house), "f");
        Checks.feed(house, 0, ESC + "[mg");
        Checks.same("PEN 0", Checks.redrawn(house), ESC + "[0mg");
        Checks.feed(house, 0, ESC + "[31m");
        Checks.same("a PEN without a cell", Checks.redrawn(house), "");
        Checks.feed(house, 0, ESC + "[1;1Ha");
        Checks.same("another attribute alone", Checks.redrawn(house), ESC + "[1;1H" + ESC + "[0;31ma");
        Checks.feed(house, 0, ESC + "[2;1H" + ESC + "[44m" + ESC + "[1X");
        Checks.same("a blank with an attribute", Checks.redrawn(house), ESC + "[2;1H" + ESC + "[0;31;44m " + ESC + "[2;1H");
    }

    private static void cursors() {
        PaneHouse house = Checks.house(8, 4, ESC + "[2;3H");
        Checks.same("moved", Checks.redrawn(house), ESC + "[2;3H");
        Checks.feed(house, 0, ESC + "[H" + ESC + "[?25l");
        Checks.same("not seen, not moved", Checks.redrawn(house), ESC + "[?25l");
        Checks.same("once", Checks.redrawn(house), "");
        Checks.feed(house, 0, ESC + "[?25h");
        Checks.same("moved and seen", Checks.redrawn(house), ESC + "[1;1H" + ESC + "[?25h");
        house.copy(0, true, 0);
        Checks.same("COPY mode", Checks.redrawn(house), ESC + "[?25l");
        house.split(0, false);
        Checks.redrawn(house);
        house.focus(0);
        Checks.same("the FOCUS in COPY mode", Checks.redrawn(house), ESC + "[?25l");
        house.focus(1);
        Checks.same("the FOCUS", Checks.redrawn(house), ESC + "[?25h");
    }

    private static void borders() {
        PaneHouse house = new PaneHouse(8, 4);
        house.split(0, false);
        Checks.same("|", Checks.redrawn(house), ESC + "[1;4H|" + ESC + "[2;4H|" + ESC + "[3;4H|" + ESC + "[4;4H|" + ESC + "[1;5H");
        house.close(0);
        house.split(1, true);
        Checks.same("-", Checks.redrawn(house), ESC + "[1;4H " + ESC + "[2;1H--------" + ESC + "[3;4H " + ESC + "[4;4H "
                + ESC + "[3;1H");
    }

    private static void largest() {
        PaneHouse house = new PaneHouse(40, 16);
        for (int i = 0; i < 640; i++) {
            Checks.feed(house, 0, ESC + "[1;4;7;3" + i % 8 + "m" + ESC + "[4" + i % 8 + "m" + (char) ('A' + i % 26));
        }
        Checks.feed(house, 0, ESC + "[?25l");
        house.redraw();
        Checks.feed(house, 0, ESC + "[H");
        for (int i = 0; i < 640; i++) {
            Checks.feed(house, 0, ESC + "[1;4;7;3" + (i + 1) % 8 + "m" + ESC + "[4" + i % 8 + "m" + (char) ('B' + i % 26));
        }
        Checks.feed(house, 0, ESC + "[16;39H" + ESC + "[?25h");
        Checks.same("each cell is another one", house.redraw(), 640 * 17 + 9 * 6 + 7 * 7 + 8 + 6);
        Checks.same("the last byte", house.out(640 * 17 + 9 * 6 + 7 * 7 + 8 + 5), 'h');
    }
}
