/** The calls of README.md answer what it tells, in its order. */
public final class ReadmeTest extends Checks {
    public static void main(String[] args) {
        test("how to use it", ReadmeTest::example);
        test("the text of all four orders", ReadmeTest::allOrders);
        end();
    }

    private static void example() {
        StormPurses island = new StormPurses();
        due("trade", island.trade(0, 0, 10, 1, 1, 5), 0);
        long before = island.digest();
        int number = island.promise(1, 0, 7, 2);
        due("fulfil", island.fulfil(number), 4);
        duePurse(island, 1, 9, 2, 0, 0);
        due("run", typeAndRun(island, "s;x01;k0"), 2);
        due("the day", island.count(0), 1);
        island.undo();
        due("the day behind undo", island.count(0), 0);
        due("where the path leads behind undo", island.islanderOf(0, 1), 1);
        due("caps that were given stay so", island.caps(0, 1), 8);
        island.undo();
        island.undo();
        due("digest behind all undos", island.digest(), before);
    }

    private static void allOrders() {
        StormPurses island = new StormPurses();
        due("run of all four", typeAndRun(island, "s;x01;p10=7/2;k0"), 4);
        due("the promise is kept with ones", island.caps(1, 0), 3);
    }
}
