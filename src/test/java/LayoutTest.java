/** The terms PANES, SPLIT, CLOSED, RESIZED, and the borders of THE PICTURE. */
final class LayoutTest {
    private static final String ESC = Checks.ESC;

    public static void main(String[] args) {
        borders();
        closingKeepsShares();
        closingFocus();
        resizing();
        resizedOnlyIfTheSizeChanges();
        cellsThatAreNotShown();
        numbersAgain();
        Checks.end();
    }

    private static void borders() {
        PaneHouse house = new PaneHouse(9, 5);
        house.split(0, false);
        house.split(0, true);
        house.split(1, true);
        Checks.same("borders", Checks.rows(house), "    |    /    |    /----|----/    |    /    |    ");
        PaneHouse other = new PaneHouse(9, 5);
        other.split(0, true);
        other.split(0, false);
        other.split(1, false);
        Checks.same("borders", Checks.rows(other), "    |    /    |    /---------/    |    /    |    ");
        Checks.same("attribute 0", Checks.attributes(other, 2), "0 0 0 0 0 0 0 0 0");
        other.close(0);
        Checks.same("a border goes", Checks.rows(other), "         /         /---------/    |    /    |    ");
    }

    private static void closingKeepsShares() {
        PaneHouse house = new PaneHouse(40, 16);
        house.split(0, false);
        house.split(1, false);
        house.split(2, false);
        Checks.same("areas", Checks.area(house, 0) + ", " + Checks.area(house, 1) + ", " + Checks.area(house, 2) + ", "
                + Checks.area(house, 3), "0 0 19 16, 20 0 9 16, 30 0 4 16, 35 0 5 16");
        house.close(0);
        Checks.same("20 cells become 40: 39 * 9 / 19 and, of 21, 20 * 4 / 9", Checks.area(house, 1) + ", "
                + Checks.area(house, 2) + ", " + Checks.area(house, 3), "0 0 18 16, 19 0 8 16, 28 0 12 16");
        house.split(2, true);
        house.close(3);
        Checks.same("a split across keeps its share", Checks.area(house, 0) + ", " + Checks.area(house, 2),
                "19 8 21 8, 19 0 21 7");
        house.close(1);
        Checks.same("the first part's sibling gets all", Checks.area(house, 0) + ", " + Checks.area(house, 2),
                "0 8 40 8, 0 0 40 7");
    }

    private static void closingFocus() {
        PaneHouse house = new PaneHouse(40, 16);
        house.split(0, true);
        house.split(1, true);
        house.split(2, false);
        house.focus(2);
        Checks.same("another one is closed", house.close(0), 2);
        Checks.same("the least number", house.close(2), 1);
        Checks.same("no pane 2", Checks.isPane(house, 2) ? 1 : 0, 0);
        Checks.same("panes", house.count(0), 2);
        Checks.same("the least number", house.close(1), 3);
        Checks.same("all", Checks.area(house, 3), "0 0 40 16");
    }

    private static void resizing() {
        PaneHouse house = Checks.house(8, 4, "abcdefgh\r\nijklmnop\r\nqrstuvwx\r\nyz012345" + ESC + "7" + ESC + "[1;2r"
                + ESC + "[4;8H");
        house.split(0, false);
        Checks.same("cut", Checks.rows(house), "abc|    /ijk|    /qrs|    /yz0|    ");
        Checks.same("cursor", Checks.cursor(house, 0), "2 3 0");
        Checks.feed(house, 0, ESC + "[?7lX" + ESC + "8Y");
        Checks.same("SAVED cursor", Checks.row(house, 3), "yzY|    ");
        Checks.feed(house, 0, "\n");
        Checks.same("the REGION is all rows", house.about(0, 7), 1);
        house.close(1);
        Checks.same("new ones are blank", Checks.rows(house), "ijk     /qrs     /yzY     /        ");
        PaneHouse wait = Checks.house(8, 4, ESC + "[41mabcdefgh");
        Checks.same("a wrap waits", wait.about(0, 6), 1);
        wait.split(0, true);
        Checks.same("the wait is off", Checks.cursor(wait, 0), "7 0 0");
        wait.close(1);
        Checks.same("attribute 0", Checks.attributes(wait, 2), "0 0 0 0 0 0 0 0");
        PaneHouse narrow = Checks.house(8, 4, ESC + "[3;8H" + ESC + "7" + ESC + "[2;3r");
        narrow.split(0, false);
        narrow.close(1);
        Checks.feed(narrow, 0, ESC + "8");
        Checks.same("the SAVED cursor's column", Checks.cursor(narrow, 0), "2 2 0");
        Checks.feed(narrow, 0, ESC + "[4H\n");
        Checks.same("the REGION begins with row 0", narrow.about(0, 7), 1);
        PaneHouse saved = Checks.house(8, 4, ESC + "[4;8H" + ESC + "7" + ESC + "[H");
        saved.split(0, true);
        saved.close(1);
        Checks.feed(saved, 0, ESC + "8");
        Checks.same("the SAVED cursor stays where it was moved", Checks.cursor(saved, 0), "7 0 0");
    }

    private static void resizedOnlyIfTheSizeChanges() {
        PaneHouse house = new PaneHouse(20, 9);
        house.split(0, true);
        Checks.feed(house, 0, ESC + "[1;2r" + "01234567890123456789");
        house.split(1, false);
        Checks.same("the wait stays", house.about(0, 6), 1);
        house.close(2);
        Checks.same("the wait stays", house.about(0, 6), 1);
        Checks.feed(house, 0, "\n\n\n");
        Checks.same("the REGION stays", house.about(0, 7), 2);
    }

    private static void cellsThatAreNotShown() {
        PaneHouse house = Checks.house(8, 4, "abcdefgh" + ESC + "[?47h");
        Checks.feed(house, 0, "\rother");
        house.split(0, false);
        house.close(1);
        Checks.same("those that are shown", Checks.row(house, 0), "oth     ");
        Checks.feed(house, 0, ESC + "[?47l");
        Checks.same("those that are not", Checks.row(house, 0), "abc     ");
    }

    private static void numbersAgain() {
        PaneHouse house = new PaneHouse(20, 9);
        house.split(0, true);
        Checks.feed(house, 1, ESC + "[1mabc\n\n\n\n\n\n\n" + ESC + "7" + ESC + "[?25l" + ESC + "[?47h" + ESC + "[4h" + ESC + "[2");
        house.key('a');
        house.copy(1, true, 1);
        house.close(1);
        Checks.same("the same number", house.split(0, true), 1);
        Checks.same("a new pane", Checks.cursor(house, 1) + " " + house.about(1, 7) + house.about(1, 8) + house.about(1, 9)
                + house.about(1, 10) + house.count(4), "0 0 0 00001");
        Checks.feed(house, 1, "4x\ry" + ESC + "8z");
        Checks.same("nothing of the old one", Checks.row(house, 5), "zx                  ");
    }
}
