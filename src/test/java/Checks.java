/** What the tests share: comparing answers, feeding texts, reading back what a house tells. */
final class Checks {
    static final String ESC = "\u001b";
    static final Class<IndexOutOfBoundsException> INDEX = IndexOutOfBoundsException.class;
    static final Class<IllegalArgumentException> ARGUMENT = IllegalArgumentException.class;
    static final Class<IllegalStateException> STATE = IllegalStateException.class;
    private static int wrong = 0;

    private Checks() {
    }

    static void same(String what, long got, long due) {
        if (got != due) {
            tell(what + " is " + got + ", due is " + due);
        }
    }

    static void same(String what, String got, String due) {
        if (!got.equals(due)) {
            tell(what + " is <" + readable(got) + ">, due is <" + readable(due) + ">");
        }
    }

    /** The call throws just this exception, and nothing that the house tells has changed. */
    static void refuses(String what, PaneHouse house, Class<? extends RuntimeException> due, Runnable call) {
        String before = state(house);
        Class<?> got = null;
        try {
            call.run();
        } catch (RuntimeException e) {
            got = e.getClass();
        }
        if (got != due) {
            tell(what + " throws " + got + ", due is " + due);
        }
        same(what + ": the state behind it", state(house), before);
    }

    static void end() {
        if (wrong != 0) {
            System.out.println(wrong + " answers are not as due");
            System.exit(1);
        }
    }

    static PaneHouse house(int width, int height, String text) {
        PaneHouse house = new PaneHouse(width, height);
        feed(house, 0, text);
        return house;
    }

    /** The picture's rows and the cursor, after a text on a screen of 8 columns and 4 rows; blanks behind may be left out. */
    static void draws(String what, String text, String rows, String cursor) {
        PaneHouse house = house(8, 4, text);
        StringBuilder padded = new StringBuilder();
        for (String row : (rows + "/ / / /").split("/")) {
            if (padded.length() < 35) {
                padded.append(padded.length() == 0 ? "" : "/").append((row + "        "), 0, 8);
            }
        }
        same(what, rows(house), padded.toString());
        same(what + ": cursor", cursor(house, 0), cursor);
    }

    static void feed(PaneHouse house, int pane, String text) {
        for (int at = 0; at < text.length(); at += 8) {
            int n = Math.min(8, text.length() - at);
            long w = 0;
            for (int i = 0; i < n; i++) {
                w |= (long) (text.charAt(at + i) & 255) << (8 * i);
            }
            house.feed(pane, w, n);
        }
    }

    static int keys(PaneHouse house, String keys) {
        int focus = house.count(1);
        for (int i = 0; i < keys.length(); i++) {
            focus = house.key(keys.charAt(i));
        }
        return focus;
    }

    /** A prefix, then a key. */
    static int command(PaneHouse house, char k) {
        house.key(2);
        return house.key(k);
    }

    static int width(PaneHouse house) {
        int width = 0;
        while (there(house, width, 0)) {
            width++;
        }
        return width;
    }

    static int height(PaneHouse house) {
        int height = 0;
        while (there(house, 0, height)) {
            height++;
        }
        return height;
    }

    private static boolean there(PaneHouse house, int column, int row) {
        try {
            house.cell(column, row, false);
            return true;
        } catch (IndexOutOfBoundsException e) {
            return false;
        }
    }

    static String row(PaneHouse house, int row) {
        StringBuilder text = new StringBuilder();
        int width = width(house);
        for (int column = 0; column < width; column++) {
            text.append((char) house.cell(column, row, false));
        }
        return text.toString();
    }

    /** All rows of the picture, with / between them. */
    static String rows(PaneHouse house) {
        StringBuilder text = new StringBuilder();
        int height = height(house);
        for (int row = 0; row < height; row++) {
            text.append(row == 0 ? "" : "/").append(row(house, row));
        }
        return text.toString();
    }

    /** The attributes of a row, with a blank between them. */
    static String attributes(PaneHouse house, int row) {
        StringBuilder text = new StringBuilder();
        int width = width(house);
        for (int column = 0; column < width; column++) {
            text.append(column == 0 ? "" : " ").append(house.cell(column, row, true));
        }
        return text.toString();
    }

    static String redrawn(PaneHouse house) {
        int size = house.redraw();
        String text = out(house);
        same("redraw()", size, text.length());
        return text;
    }

    static String out(PaneHouse house) {
        StringBuilder text = new StringBuilder();
        try {
            for (int i = 0; i < 100000; i++) {
                text.append((char) house.out(i));
            }
        } catch (IndexOutOfBoundsException e) {
            return text.toString();
        }
        return "OUT has no end";
    }

    static String input(PaneHouse house, int pane) {
        StringBuilder text = new StringBuilder();
        try {
            for (int i = 0; i < 1000; i++) {
                text.append((char) house.input(pane, i));
            }
        } catch (IndexOutOfBoundsException e) {
            return text.toString();
        }
        return "the INPUT has no end";
    }

    static String copied(PaneHouse house) {
        StringBuilder text = new StringBuilder();
        int size = house.count(5);
        for (int i = 0; i < size; i++) {
            text.append((char) house.copied(i));
        }
        return text.toString();
    }

    static boolean isPane(PaneHouse house, int pane) {
        try {
            house.about(pane, 0);
            return true;
        } catch (IndexOutOfBoundsException e) {
            return false;
        }
    }

    /** Column, row, columns and rows of a pane's area. */
    static String area(PaneHouse house, int pane) {
        return house.about(pane, 0) + " " + house.about(pane, 1) + " " + house.about(pane, 2) + " "
                + house.about(pane, 3);
    }

    /** Column and row of a pane's cursor, and whether a wrap waits. */
    static String cursor(PaneHouse house, int pane) {
        return house.about(pane, 4) + " " + house.about(pane, 5) + " " + house.about(pane, 6);
    }

    /** All that a house tells without a change of it. */
    static String state(PaneHouse house) {
        StringBuilder text = new StringBuilder();
        for (int pane = -1; pane < 9; pane++) {
            if (isPane(house, pane)) {
                text.append("pane ").append(pane);
                for (int what = 0; what <= 10; what++) {
                    text.append(' ').append(house.about(pane, what));
                }
                text.append(input(house, pane)).append('\n');
            }
        }
        int height = height(house);
        for (int row = 0; row < height; row++) {
            text.append(row(house, row)).append(attributes(house, row)).append('\n');
        }
        for (int what = 0; what <= 5; what++) {
            text.append(house.count(what)).append(' ');
        }
        return text.append(copied(house)).append('\n').append(out(house)).toString();
    }

    private static void tell(String text) {
        wrong++;
        System.out.println(text);
    }

    private static String readable(String text) {
        return text.replace(ESC, "ESC");
    }
}
