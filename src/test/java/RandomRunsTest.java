import java.util.Random;

/** Runs of 512 calls from fixed seeds: no other exception than those of the document, and what must hold in any state. */
final class RandomRunsTest {
    private static final String ESC = Checks.ESC;
    private static final int RUNS = 400;
    private static final int CALLS = 512;

    private final Random random;
    private final PaneHouse house;
    private final PaneHouse mirror;

    private RandomRunsTest(long seed) {
        random = new Random(seed);
        int width = 4 + random.nextInt(40);
        int height = 2 + random.nextInt(16);
        house = new PaneHouse(width, height);
        mirror = new PaneHouse(width, height);
    }

    public static void main(String[] args) {
        for (int seed = 0; seed < RUNS; seed++) {
            RandomRunsTest run = new RandomRunsTest(seed);
            for (int i = 0; i < CALLS; i++) {
                run.call();
                if (i % 64 == 63) {
                    run.areasFillTheScreen("seed " + seed);
                    run.outDrawsThePicture("seed " + seed);
                }
            }
        }
        Checks.end();
    }

    private void call() {
        int pane = random.nextInt(40) == 0 ? random.nextInt() : random.nextInt(8);
        try {
            switch (random.nextInt(10)) {
                case 0 -> house.split(pane, random.nextBoolean());
                case 1 -> house.close(pane);
                case 2 -> house.focus(pane);
                case 3 -> house.copy(pane, random.nextBoolean(), random.nextInt(50) - 20);
                case 4 -> house.select(pane, number(), number(), number(), number());
                case 5 -> key();
                case 6 -> house.feed(pane, random.nextLong(), random.nextInt(10));
                default -> sequence(pane);
            }
        } catch (IndexOutOfBoundsException | IllegalArgumentException | IllegalStateException e) {
            if (!isThrownByStatement(e)) {
                Checks.same("a throw that no throw statement made: " + e, 1, 0);
            }
        }
    }

    /* An index that nothing looked at throws a class below IndexOutOfBoundsException, or throws in the library. */
    private static boolean isThrownByStatement(RuntimeException e) {
        Class<?> thrown = e.getClass();
        return (thrown == Checks.INDEX || thrown == Checks.ARGUMENT || thrown == Checks.STATE)
                && e.getStackTrace()[0].getClassName().startsWith("PaneHouse");
    }

    private int number() {
        return random.nextInt(20) - 1;
    }

    private void key() {
        String known = "\"%ox[]kjq";
        house.key(2);
        house.key(random.nextBoolean() ? known.charAt(random.nextInt(known.length())) : random.nextInt(256));
        house.key(random.nextInt(256));
    }

    private void sequence(int pane) {
        if (!Checks.isPane(house, pane)) {
            return;
        }
        String last = "ABCDGHJKLMPSTX@dfrmhlmmrr";
        String numbers = new String[] {"", "1", "2", "3;5", "?7", "?47", "?25", "4", "31;42", "999;999", ";7", "2;9"}[random.nextInt(12)];
        Checks.feed(house, pane, ESC + "[" + numbers + last.charAt(random.nextInt(last.length())) + "some text\n");
    }

    private void areasFillTheScreen(String what) {
        int width = Checks.width(house);
        int height = Checks.height(house);
        int covered = 0;
        for (int pane = 0; pane < 8; pane++) {
            if (Checks.isPane(house, pane)) {
                covered += house.about(pane, 2) * house.about(pane, 3);
                Checks.same(what + ": the cursor is in its pane", house.about(pane, 4) >= 0 && house.about(pane, 5) >= 0
                        && house.about(pane, 4) < house.about(pane, 2) && house.about(pane, 5) < house.about(pane, 3) ? 1 : 0, 1);
            }
        }
        int borders = 0;
        for (int row = 0; row < height; row++) {
            for (int column = 0; column < width; column++) {
                borders += inPane(column, row) ? 0 : 1;
            }
        }
        Checks.same(what + ": panes and borders", covered + borders, width * height);
    }

    private boolean inPane(int column, int row) {
        for (int pane = 0; pane < 8; pane++) {
            if (Checks.isPane(house, pane)) {
                int right = column - house.about(pane, 0);
                int below = row - house.about(pane, 1);
                if (right >= 0 && right < house.about(pane, 2) && below >= 0 && below < house.about(pane, 3)) {
                    return true;
                }
            }
        }
        return false;
    }

    /** Another house stands for the outer screen: what OUT draws on it must be the picture. */
    private void outDrawsThePicture(String what) {
        Checks.feed(mirror, 0, Checks.redrawn(house));
        Checks.same(what + ": the picture", Checks.rows(mirror), Checks.rows(house));
        int height = Checks.height(house);
        for (int row = 0; row < height; row++) {
            Checks.same(what + ": attributes", Checks.attributes(mirror, row), Checks.attributes(house, row));
        }
        Checks.same(what + ": seen", mirror.count(4), house.count(4));
        if (house.count(4) == 1) {
            Checks.same(what + ": the cursor", Checks.cursor(mirror, 0), house.count(2) + " " + house.count(3) + " 0");
        }
        Checks.same(what + ": nothing is left", house.redraw(), 0);
    }
}
