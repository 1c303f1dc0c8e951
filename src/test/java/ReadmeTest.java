/** The example of README.md, call by call, with what its comments say. */
final class ReadmeTest {
    private ReadmeTest() {
    }

    public static void main(String[] args) {
        PaneHouse house = new PaneHouse(20, 7);
        int right = house.split(0, false);
        Checks.same("the new pane", right, 1);
        Checks.same("the focus", house.count(1), 1);

        house.feed(right, 0x6f6c6c6568L, 5);
        Checks.same("row 0", Checks.row(house, 0), "         |hello     ");

        Checks.same("the focus behind the key", house.key('a'), 1);
        Checks.same("its input", house.input(right, 0), 'a');

        house.key(2);
        Checks.same("the focus behind a split down", house.key('"'), 2);
        Checks.same("row 3", Checks.row(house, 3), "         |----------");

        house.focus(right);
        Checks.same("how many bytes are copied", house.select(right, 0, 0, 0, 9), 5);
        Checks.same("the first of them", house.copied(0), 'h');

        int size = house.redraw();
        Checks.same("the bytes for the outer screen", Checks.out(house).length(), size);
        Checks.same("nothing is left to draw", house.redraw(), 0);

        Checks.same("the focus behind close", house.close(right), 0);
        Checks.refuses("a pane that is gone", house, Checks.INDEX, () -> house.focus(right));
        Checks.end();
    }
}
