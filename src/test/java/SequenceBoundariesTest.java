/** The document's sentences on the longer sequences that name a boundary: each stands above its own test. */
final class SequenceBoundariesTest {
    private static final String ESC = Checks.ESC;
    private static final String FULL = "abcdefgh\r\nijklmnop\r\nqrstuvwx\r\nyz012345";
    private static final String FULL_ROWS = "abcdefgh/ijklmnop/qrstuvwx/yz012345";

    public static void main(String[] args) {
        atMost999();
        fourAtMost();
        lastBytes();
        otherBytes();
        notThereBeforeOrBetween();
        firstNumberIsN();
        firstNumberIsZ();
        asFarAsTheScreenGoes();
        lastOneAtMost();
        rowAndColumn();
        eraseFromTheCursorOn();
        eraseUpToIt();
        eraseInItsRow();
        rowsInTheRegion();
        rowsOutsideTheRegion();
        noHistoryOfDeletedRows();
        cellsInItsRow();
        endOfTheRegion();
        regionOfMoreThanN();
        pensWithoutNumbers();
        pensAtTheEdges();
        insertModeByItsFirstNumber();
        modesWithAQuestionMark();
        shownAlready();
        erasedCells();
        Checks.end();
    }

    private static void pen(String what, String text, int due) {
        Checks.same(what, Checks.house(8, 4, text).about(0, 8), due);
    }

    /** The cursor behind a sequence that began at column 4 of row 2, on 8 columns and 4 rows. */
    private static void goes(String sequence, String due) {
        PaneHouse house = Checks.house(8, 4, ESC + "[3;5H" + ESC + "[" + sequence);
        Checks.same(sequence, Checks.cursor(house, 0), due + " 0");
    }

    /** "digits, at most 999 counts" */
    private static void atMost999() {
        pen("1001 is not 1", ESC + "[1001m", 0);
        pen("10 is not 1", ESC + "[10m", 0);
        pen("2 ^ 32 + 1 is not 1", ESC + "[4294967297m", 0);
        pen("1000000004 is not 4", ESC + "[1000000004m", 0);
        pen("zeros before it", ESC + "[0000000000000000000000000000000031m", 16 * 2);
        Checks.same("2 ^ 32 + 25 is not 25", Checks.house(8, 4, ESC + "[?4294967321l").count(4), 1);
        goes("99999999999999999999999C", "7 2");
        goes("2147483647B", "4 3");
        goes("2147483648A", "4 0");
        goes("4294967295D", "0 2");
        goes("999;999H", "7 3");
        goes("1000;1000H", "7 3");
    }

    /** "four at most, others are left out" */
    private static void fourAtMost() {
        pen("three", ESC + "[1;4;7m", 7);
        pen("four", ESC + "[1;4;7;31m", 7 + 16 * 2);
        pen("five", ESC + "[1;4;7;31;42m", 7 + 16 * 2);
        pen("the fifth one is no part of the fourth", ESC + "[1;4;7;3;1m", 7);
        pen("nor is it 0", ESC + "[1;4;7;31;0m", 7 + 16 * 2);
        pen("many", ESC + "[1;;;1;;;;;;;4;7m", 1);
        goes("2;3;9;9;9;9H", "2 1");
    }

    /** "then a byte 64 .. 126, which ends it" */
    private static void lastBytes() {
        for (char b = 64; b <= 126; b++) {
            PaneHouse house = Checks.house(8, 4, ESC + "[1;1" + b + "xy");
            Checks.same("behind " + b, house.cell(house.about(0, 4) - 1, house.about(0, 5), false), 'y');
            PaneHouse asked = Checks.house(8, 4, ESC + "[?1" + b + "xy");
            Checks.same("behind ? and " + b, Checks.row(asked, 0), "xy      ");
        }
    }

    /** "other bytes below 64, or above 126, do nothing, and it goes on" */
    private static void otherBytes() {
        for (int b = 0; b < 256; b++) {
            boolean meant = (b >= 64 && b <= 126) || "0123456789;\b\t\n\r\u001b".indexOf(b) >= 0;
            if (!meant) {
                String other = String.valueOf((char) b);
                Checks.draws("within " + b, ESC + "[2" + other + ";" + other + "3" + other + "HX", "/  X", "3 1 0");
            }
        }
        Checks.draws("between digits", ESC + "[0!4GX", "   X", "4 0 0");
    }

    /** "A number that is not there before or between ; is 0." */
    private static void notThereBeforeOrBetween() {
        pen("before", ESC + "[1m" + ESC + "[;4m", 2);
        pen("between", ESC + "[1;;4m", 2);
        pen("between, twice", ESC + "[1;;;4m", 2);
        pen("behind the last one there is none", ESC + "[1;m", 1);
        pen("before the only one", ESC + "[1m" + ESC + "[;m", 0);
        goes(";4H", "3 0");
        goes("4;H", "0 3");
        goes(";H", "0 0");
    }

    /** "N is the first number, 1 if there is none or it is 0" */
    private static void firstNumberIsN() {
        String[] due = {"A4 1", "B4 3", "C5 2", "D3 2", "G0 2", "d4 0", "H0 0", "f0 0", "L0 2", "M0 2"};
        for (String each : due) {
            for (String number : new String[] {"", "0", "1", "00", ";", "0;"}) {
                goes(number + each.charAt(0), each.substring(1));
            }
        }
        for (String number : new String[] {"", "0", "1"}) {
            String place = FULL + ESC + "[2;3H" + ESC + "[" + number;
            Checks.draws(number + " @", place + "@", "abcdefgh/ij klmno/qrstuvwx/yz012345", "2 1 0");
            Checks.draws(number + " P", place + "P", "abcdefgh/ijlmnop/qrstuvwx/yz012345", "2 1 0");
            Checks.draws(number + " X", place + "X", "abcdefgh/ij lmnop/qrstuvwx/yz012345", "2 1 0");
            Checks.draws(number + " S", place + "S", "ijklmnop/qrstuvwx/yz012345", "2 1 0");
            Checks.draws(number + " T", place + "T", "/abcdefgh/ijklmnop/qrstuvwx", "2 1 0");
            Checks.draws(number + " L", place + "L", "abcdefgh//ijklmnop/qrstuvwx", "0 1 0");
            Checks.draws(number + " M", place + "M", "abcdefgh/qrstuvwx/yz012345", "0 1 0");
        }
    }

    /** "Z the first number, 0 if there is none" */
    private static void firstNumberIsZ() {
        String place = FULL + ESC + "[2;3H" + ESC + "[";
        for (String number : new String[] {"", "0", ";2", ";"}) {
            Checks.draws(number + " J", place + number + "J", "abcdefgh/ij", "2 1 0");
            Checks.draws(number + " K", place + number + "K", "abcdefgh/ij/qrstuvwx/yz012345", "2 1 0");
        }
        for (String number : new String[] {"3", "4", "999"}) {
            Checks.draws(number + " J", place + number + "J", FULL_ROWS, "2 1 0");
            Checks.draws(number + " K", place + number + "K", FULL_ROWS, "2 1 0");
        }
    }

    /** "A up, B down, C right, D left by N, as far as the screen goes." */
    private static void asFarAsTheScreenGoes() {
        String[] due = {"1A 4 1", "2A 4 0", "3A 4 0", "1B 4 3", "2B 4 3", "2C 6 2", "3C 7 2", "4C 7 2", "3D 1 2", "4D 0 2", "5D 0 2"};
        for (String each : due) {
            goes(each.substring(0, 2), each.substring(3));
        }
        String region = ESC + "[2;3r" + ESC + "[2;5H" + ESC + "[";
        Checks.draws("A out of the REGION", region + "9A", "", "4 0 0");
        Checks.draws("B out of the REGION", region + "9B", "", "4 3 0");
    }

    /** "G column N, d row N (from 1 on, the last one at most)." */
    private static void lastOneAtMost() {
        String[] due = {"1G 0 2", "7G 6 2", "8G 7 2", "9G 7 2", "1d 4 0", "3d 4 2", "4d 4 3", "5d 4 3"};
        for (String each : due) {
            goes(each.substring(0, 2), each.substring(3));
        }
    }

    /** "H or f: row N, column the second number (as N)." */
    private static void rowAndColumn() {
        for (String last : new String[] {"H", "f"}) {
            goes("1;1" + last, "0 0");
            goes("4;8" + last, "7 3");
            goes("5;9" + last, "7 3");
            goes("4;0" + last, "0 3");
            goes("0;8" + last, "7 0");
            goes("4" + last, "0 3");
        }
    }

    /** "J: erases: from the cursor on (Z = 0)" */
    private static void eraseFromTheCursorOn() {
        Checks.draws("at the first cell", FULL + ESC + "[H" + ESC + "[J", "", "0 0 0");
        Checks.draws("at a row's first cell", FULL + ESC + "[3H" + ESC + "[J", "abcdefgh/ijklmnop", "0 2 0");
        Checks.draws("at a row's last cell", FULL + ESC + "[3;8H" + ESC + "[J", "abcdefgh/ijklmnop/qrstuvw", "7 2 0");
        Checks.draws("at the last cell", FULL + ESC + "[J", "abcdefgh/ijklmnop/qrstuvwx/yz01234", "7 3 0");
    }

    /** "up to it (1), all (2)" */
    private static void eraseUpToIt() {
        Checks.draws("at the first cell", FULL + ESC + "[H" + ESC + "[1J", " bcdefgh/ijklmnop/qrstuvwx/yz012345", "0 0 0");
        Checks.draws("at a row's last cell", FULL + ESC + "[2;8H" + ESC + "[1J", "//qrstuvwx/yz012345", "7 1 0");
        Checks.draws("at the last cell", FULL + ESC + "[1J", "", "7 3 0");
        Checks.draws("all at the first cell", FULL + ESC + "[H" + ESC + "[2J", "", "0 0 0");
        Checks.draws("all at the last cell", FULL + ESC + "[2J", "", "7 3 0");
        Checks.draws("outside the REGION, too", FULL + ESC + "[2;3r" + ESC + "[2J", "", "0 0 0");
    }

    /** "K: the same in its row." */
    private static void eraseInItsRow() {
        String first = FULL + ESC + "[2H" + ESC + "[";
        String last = FULL + ESC + "[2;8H" + ESC + "[";
        Checks.draws("from the first cell", first + "K", "abcdefgh//qrstuvwx/yz012345", "0 1 0");
        Checks.draws("from the last cell", last + "K", "abcdefgh/ijklmno/qrstuvwx/yz012345", "7 1 0");
        Checks.draws("up to the first cell", first + "1K", "abcdefgh/ jklmnop/qrstuvwx/yz012345", "0 1 0");
        Checks.draws("up to the last cell", last + "1K", "abcdefgh//qrstuvwx/yz012345", "7 1 0");
        Checks.draws("all from the last cell", last + "2K", "abcdefgh//qrstuvwx/yz012345", "7 1 0");
    }

    /** "the REGION from it on SCROLLS DOWN; M deletes: it SCROLLS UP (no history); the cursor goes to column 0 with both" */
    private static void rowsInTheRegion() {
        String first = FULL + ESC + "[2;3r" + ESC + "[2;5H" + ESC + "[";
        String last = FULL + ESC + "[2;3r" + ESC + "[3;5H" + ESC + "[";
        for (String number : new String[] {"1", "2", "3", "999"}) {
            String left = number.equals("1") ? "ijklmnop" : "";
            Checks.draws(number + " L in its first row", first + number + "L", "abcdefgh//" + left + "/yz012345", "0 1 0");
            Checks.draws(number + " L in its last row", last + number + "L", "abcdefgh/ijklmnop//yz012345", "0 2 0");
            left = number.equals("1") ? "qrstuvwx" : "";
            Checks.draws(number + " M in its first row", first + number + "M", "abcdefgh/" + left + "//yz012345", "0 1 0");
            Checks.draws(number + " M in its last row", last + number + "M", "abcdefgh/ijklmnop//yz012345", "0 2 0");
        }
    }

    /** "if that is in the REGION (else nothing but the wait's end, of M likewise)" */
    private static void rowsOutsideTheRegion() {
        for (String last : new String[] {"L", "M", "9L", "9M"}) {
            String region = FULL + ESC + "[2;3r" + ESC;
            Checks.draws(last + " above it", region + "[1;5H" + ESC + "[" + last, FULL_ROWS, "4 0 0");
            Checks.draws(last + " below it", region + "[4;5H" + ESC + "[" + last, FULL_ROWS, "4 3 0");
            Checks.draws(last + " ends the wait", region + "[1;8Hh" + ESC + "[" + last, FULL_ROWS, "7 0 0");
        }
    }

    /** "M deletes: it SCROLLS UP (no history)" */
    private static void noHistoryOfDeletedRows() {
        PaneHouse house = Checks.house(8, 4, FULL + ESC + "[H" + ESC + "[4M");
        Checks.same("all rows", Checks.rows(house), "        /        /        /        ");
        Checks.same("no HISTORY", house.about(0, 7), 0);
    }

    /** "@ inserts N blanks, P deletes N cells, X erases N cells in its row from the cursor on." */
    private static void cellsInItsRow() {
        String place = "abcdefgh" + ESC + "[6G" + ESC + "[";
        Checks.draws("2 @", place + "2@", "abcde  f", "5 0 0");
        Checks.draws("2 P", place + "2P", "abcdeh", "5 0 0");
        Checks.draws("2 X", place + "2X", "abcde  h", "5 0 0");
        for (String number : new String[] {"3", "4", "999"}) {
            for (String last : new String[] {"@", "P", "X"}) {
                Checks.draws(number + last, place + number + last, "abcde", "5 0 0");
            }
        }
        for (String last : new String[] {"@", "P", "X"}) {
            Checks.draws(last + " in the last column", FULL + ESC + "[1;8H" + ESC + "[" + last,
                    "abcdefg/ijklmnop/qrstuvwx/yz012345", "7 0 0");
            Checks.draws(last + " of all columns", FULL + ESC + "[1;1H" + ESC + "[8" + last,
                    "/ijklmnop/qrstuvwx/yz012345", "0 0 0");
        }
    }

    /** "the REGION is row N .. the second number (the last row, if there is none or 0, or it is beyond)" */
    private static void endOfTheRegion() {
        for (String end : new String[] {"3;4", "3", "3;", "3;0", "3;5", "3;999"}) {
            Checks.draws(end + "r", FULL + ESC + "[" + end + "r" + ESC + "[4H\n", "abcdefgh/ijklmnop/yz012345", "0 3 0");
        }
        for (String all : new String[] {"", "0", "1", ";", "1;4", "0;0", ";4", "1;5"}) {
            PaneHouse house = Checks.house(8, 4, FULL + ESC + "[2;3r" + ESC + "[" + all + "r" + ESC + "[S");
            Checks.same(all + "r is all rows", Checks.rows(house), "ijklmnop/qrstuvwx/yz012345/        ");
        }
    }

    /** "if that is more than N; then the cursor goes to row 0, column 0" */
    private static void regionOfMoreThanN() {
        Checks.draws("2 is more than 1", FULL + ESC + "[1;2r", FULL_ROWS, "0 0 0");
        Checks.draws("4 is more than 3", FULL + ESC + "[3;4r", FULL_ROWS, "0 0 0");
        for (String none : new String[] {"1;1", "2;2", "4;4", "4", "4;0", "4;9", "3;2", "5", "5;9", "999;999"}) {
            PaneHouse house = Checks.house(8, 4, FULL + ESC + "[1;2r" + ESC + "[4;8H5" + ESC + "[" + none + "r");
            Checks.same(none + "r leaves the cursor, but no wait", Checks.cursor(house, 0), "7 3 0");
            Checks.feed(house, 0, ESC + "[S");
            Checks.same(none + "r leaves the REGION", Checks.rows(house), "ijklmnop/        /qrstuvwx/yz012345");
        }
    }

    /** "m: for each number in turn (0 alone without any)" */
    private static void pensWithoutNumbers() {
        pen("none", ESC + "[1;31m" + ESC + "[m", 0);
        pen("in turn", ESC + "[1;0;4m", 2);
        pen("0 at the end", ESC + "[1;4;0m", 0);
        pen("the last colour stays", ESC + "[31;32;33m", 16 * 4);
    }

    /** "30 .. 37, 40 .. 47 colours; 39, 49 none" */
    private static void pensAtTheEdges() {
        String all = ESC + "[1;4;7;33m" + ESC + "[44m";
        int pen = 7 + 16 * 4 + 256 * 5;
        for (int number = 0; number <= 130; number++) {
            int due = switch (number) {
                case 0 -> 0;
                case 22 -> pen - 1;
                case 24 -> pen - 2;
                case 27 -> pen - 4;
                case 39 -> 7 + 256 * 5;
                case 49 -> 7 + 16 * 4;
                case 30, 31, 32, 33, 34, 35, 36, 37 -> 7 + 16 * (number - 29) + 256 * 5;
                case 40, 41, 42, 43, 44, 45, 46, 47 -> 7 + 16 * 4 + 256 * (number - 39);
                default -> pen;
            };
            pen("number " + number, all + ESC + "[" + number + "m", due);
            int from0 = switch (number) {
                case 1 -> 1;
                case 4 -> 2;
                case 7 -> 4;
                case 30, 31, 32, 33, 34, 35, 36, 37 -> 16 * (number - 29);
                case 40, 41, 42, 43, 44, 45, 46, 47 -> 256 * (number - 39);
                default -> 0;
            };
            pen("number " + number + " alone", ESC + "[" + number + "m", from0);
        }
    }

    /** "h, l with 4 as their first number: INSERT mode on, off (off at first)" */
    private static void insertModeByItsFirstNumber() {
        Checks.draws("off at first", "ab\rX", "Xb", "1 0 0");
        Checks.draws("4", "ab\r" + ESC + "[4hX", "Xab", "1 0 0");
        Checks.draws("4 and others", "ab\r" + ESC + "[4;1;2hX", "Xab", "1 0 0");
        for (String other : new String[] {"", "0", "3", "5", "7", "14", "40", "1;4", ";4", "?4"}) {
            Checks.draws(other + " h", "ab\r" + ESC + "[" + other + "hX", "Xb", "1 0 0");
            Checks.draws(other + " l", "ab\r" + ESC + "[4h" + ESC + "[" + other + "lX", "Xab", "1 0 0");
        }
        Checks.draws("4 l", "ab\r" + ESC + "[4h" + ESC + "[4lX", "Xb", "1 0 0");
        Checks.draws("on twice, off once", "ab\r" + ESC + "[4h" + ESC + "[4h" + ESC + "[4lX", "Xb", "1 0 0");
    }

    /** "With ?: h, l with, as their first number, 7 ...; 25 ...; 47" */
    private static void modesWithAQuestionMark() {
        for (int number = 0; number <= 60; number++) {
            PaneHouse house = Checks.house(8, 4, ESC + "[?" + number + "l" + "abcdefgh");
            Checks.same("the wait with " + number, house.about(0, 6), number == 7 ? 0 : 1);
            Checks.same("the cursor with " + number, house.count(4), number == 25 ? 0 : 1);
            Checks.feed(house, 0, ESC + "[?" + number + "h");
            Checks.same("cells with " + number, house.cell(0, 0, false), number == 47 ? ' ' : 'a');
            Checks.same("the cursor again", house.count(4), 1);
        }
        Checks.same("the first number alone", Checks.house(8, 4, ESC + "[?1;25l").count(4), 1);
        Checks.same("no ?", Checks.house(8, 4, ESC + "[25l").count(4), 1);
    }

    /** "(each nothing, if these are shown already; cursor, REGION, SAVED and PEN stay)" */
    private static void shownAlready() {
        String place = "ab" + ESC + "[2;3r" + ESC + "[1m" + ESC + "[3;4H" + ESC + "7" + ESC + "[2;6H" + ESC + "[4m";
        for (String shown : new String[] {"[?47h", "[?47l", "[?47h" + ESC + "[?47l", "[?47h" + ESC + "[?47h"}) {
            PaneHouse house = Checks.house(8, 4, place + ESC + shown);
            Checks.same("the cursor", Checks.cursor(house, 0), "5 1 0");
            Checks.same("the PEN", house.about(0, 8), 3);
            Checks.feed(house, 0, ESC + "8");
            Checks.same("the SAVED cursor", Checks.cursor(house, 0), "3 2 0");
            Checks.same("the SAVED PEN", house.about(0, 8), 1);
            Checks.feed(house, 0, "\n");
            Checks.same("the REGION", house.about(0, 5), 2);
        }
        Checks.draws("other cells twice", "ab" + ESC + "[?47hX" + ESC + "[?47hY", "  XY", "4 0 0");
        Checks.draws("main cells, shown at first", "ab" + ESC + "[?47lX", "abX", "3 0 0");
        Checks.draws("main cells twice", "ab" + ESC + "[?47hX" + ESC + "[?47lY" + ESC + "[?47lZ", "ab YZ", "5 0 0");
        Checks.draws("the wait stays", "abcdefgh" + ESC + "[?47hX", "/X", "1 1 0");
    }

    /** "Erased cells are blank with the PEN's attribute." */
    private static void erasedCells() {
        for (String last : new String[] {"J", "1J", "2J", "K", "1K", "2K", "X", "@"}) {
            PaneHouse house = Checks.house(8, 4, FULL + ESC + "[46m" + ESC + "[2;3H" + ESC + "[" + last);
            Checks.same(last + ": the cursor's cell", house.cell(2, 1, false), ' ');
            Checks.same(last + ": its attribute", house.cell(2, 1, true), 256 * 7);
        }
        PaneHouse deleted = Checks.house(8, 4, FULL + ESC + "[46m" + ESC + "[2;3H" + ESC + "[P");
        Checks.same("P: the last cell's attribute", Checks.attributes(deleted, 1), "0 0 0 0 0 0 0 1792");
    }
}
