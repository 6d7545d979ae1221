/** Promises 4, 5 and 6: houses, levels and money. */
public final class MoneyTest {
    public static void main(String[] args) {
        houses();
        levels();
        money();
        Due.end("MoneyTest");
    }

    private static void houses() {
        HomeRoll x = new HomeRoll();
        Due.is("house without people", x.house(0, 1), -1);
        x.person(-1, -1);
        x.person(-1, -1);
        Due.is("holder -1", x.house(-1, 1), -1);
        Due.is("holder 2", x.house(2, 1), -1);
        Due.is("worth -1", x.house(0, -1), -1);
        Due.is("worth 1000001", x.house(0, 1000001), -1);
        Due.is("about(1)", x.about(1), 0);
        Due.is("worth 0", x.house(0, 0), 0);
        Due.is("worth 1000000", x.house(1, 1000000), 1);
        for (int i = 2; i < 8; i++) {
            Due.is("house " + i, x.house(0, i), i);
        }
        Due.is("9th house", x.house(0, 1), -1);
        Due.is("about(1)", x.about(1), 8);
        Due.is("its first holder", x.holder(1, 0, 0), 1);
    }

    private static void levels() {
        HomeRoll x = new HomeRoll();
        Due.is("level(-1, 1)", x.level(-1, 1), false);
        Due.is("level(100, 1)", x.level(100, 1), false);
        Due.is("level(0, 0)", x.level(0, 0), false);
        Due.is("level(0, -5)", x.level(0, -5), false);
        Due.is("level(0, 10001)", x.level(0, 10001), false);
        Due.is("all are 100 still", x.money(77, 0, 1), 77);
        Due.is("level(0, 1)", x.level(0, 1), true);
        Due.is("level(99, 10000)", x.level(99, 10000), true);
        Due.is("from 1 to 10000", x.money(1000000, 0, 99), 10000000000L);
        Due.is("told again", x.level(99, 50), true);
        Due.is("the last one counts", x.money(3, 0, 99), 150);
    }

    private static void money() {
        HomeRoll x = new HomeRoll();
        x.level(5, 30);
        x.level(6, 7);
        Due.is("the same year", x.money(1000000, 5, 5), 1000000);
        Due.is("cut", x.money(100, 5, 6), 23);
        Due.is("the other way", x.money(23, 6, 5), 98);
        Due.is("to less than one", x.money(4, 5, 6), 0);
        Due.is("nothing", x.money(0, 5, 6), 0);
        Due.is("to a year never told", x.money(3, 5, 7), 10);
        Due.is("sum -1", x.money(-1, 5, 6), -1);
        Due.is("sum 1000001", x.money(1000001, 5, 6), -1);
        Due.is("from -1", x.money(1, -1, 6), -1);
        Due.is("from 100", x.money(1, 100, 6), -1);
        Due.is("to -1", x.money(1, 5, -1), -1);
        Due.is("to 100", x.money(1, 5, 100), -1);
        Due.is("to most", x.money(1, 5, Integer.MAX_VALUE), -1);
    }
}
