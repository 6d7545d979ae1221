/** Promises 7 to 11: papers, false ones, days, holders and loose papers. */
public final class PapersTest {
    public static void main(String[] args) {
        wrongPapers();
        mostPapers();
        days();
        holders();
        orderOfLikeDays();
        foundLater();
        falsePapers();
        Due.end("PapersTest");
    }

    private static HomeRoll office(int day) {
        HomeRoll x = Due.withPeople(5);
        x.house(0, 100);
        x.house(1, 200);
        Due.goTo(x, day);
        return x;
    }

    private static void wrongPapers() {
        HomeRoll x = office(10);
        Due.is("house -1", x.paper(-1, 0, 1, 5, 0, 0), -1);
        Due.is("house 2", x.paper(2, 0, 1, 5, 0, 0), -1);
        Due.is("from -1", x.paper(0, -1, 1, 5, 0, 0), -1);
        Due.is("from 5", x.paper(0, 5, 1, 5, 0, 0), -1);
        Due.is("to -1", x.paper(0, 0, -1, 5, 0, 0), -1);
        Due.is("to 5", x.paper(0, 0, 5, 5, 0, 0), -1);
        Due.is("alike", x.paper(0, 1, 1, 5, 0, 0), -1);
        Due.is("day -1", x.paper(0, 0, 1, -1, 0, 0), -1);
        Due.is("day 11", x.paper(0, 0, 1, 11, 0, 0), -1);
        Due.is("sort -1", x.paper(0, 0, 1, 5, -1, 0), -1);
        Due.is("sort 3", x.paper(0, 0, 1, 5, 3, 0), -1);
        Due.is("price -1", x.paper(0, 0, 1, 5, 0, -1), -1);
        Due.is("price 1000001", x.paper(0, 0, 1, 5, 0, 1000001), -1);
        Due.is("about(2)", x.about(2), 0);
        Due.is("holder", x.holder(0, 10, 10), 0);
        Due.is("day 0, price 0", x.paper(0, 0, 1, 0, 0, 0), 0);
        Due.is("today, price 1000000", x.paper(1, 1, 0, 10, 2, 1000000), 1);
        Due.is("by one who never held it", x.paper(1, 4, 3, 10, 1, 1), 2);
        Due.is("about(2)", x.about(2), 3);
    }

    private static void mostPapers() {
        HomeRoll x = office(100);
        for (int i = 0; i < 60; i++) {
            Due.is("paper " + i, x.paper(0, i % 2, 1 - i % 2, 100 - i, 0, 0), i);
        }
        Due.is("61st paper", x.paper(0, 0, 1, 5, 0, 0), -1);
        Due.is("about(2)", x.about(2), 60);
        // told from the last day to the first: on day 41 it goes by the 60th, which is 1 -> 0 and so loose
        Due.is("loose(59)", x.loose(59, 100), 1);
        Due.is("loose(58)", x.loose(58, 100), 0);
        Due.is("loose(0)", x.loose(0, 100), 0);
        Due.is("holder on 41", x.holder(0, 41, 100), 0);
        Due.is("holder on 42", x.holder(0, 42, 100), 1);
        Due.is("holder on 43", x.holder(0, 43, 100), 0);
        Due.is("holder on 100", x.holder(0, 100, 100), 1);
    }

    private static void days() {
        HomeRoll x = new HomeRoll();
        Due.is("later(-1)", x.later(-1), -1);
        Due.is("later(1001)", x.later(1001), -1);
        Due.is("later(0)", x.later(0), 0);
        for (int i = 1; i <= 36; i++) {
            Due.is("later(1000)", x.later(1000), i * 1000);
        }
        Due.is("later(500)", x.later(500), -1);
        Due.is("about(3)", x.about(3), 36000);
        Due.is("later(499)", x.later(499), 36499);
        Due.is("later(1)", x.later(1), -1);
        Due.is("later(0)", x.later(0), 36499);
        Due.is("later(most)", x.later(Integer.MAX_VALUE), -1);
        Due.is("about(3)", x.about(3), 36499);
    }

    private static void holders() {
        HomeRoll x = office(50);
        x.paper(0, 1, 2, 30, 0, 0);
        x.paper(0, 0, 1, 20, 0, 0);
        x.paper(0, 3, 4, 25, 0, 0);
        x.paper(1, 1, 3, 20, 0, 0);
        Due.is("before all", x.holder(0, 19, 50), 0);
        Due.is("on 20", x.holder(0, 20, 50), 1);
        Due.is("on 29", x.holder(0, 29, 50), 1);
        Due.is("on 30", x.holder(0, 30, 50), 2);
        Due.is("day -1", x.holder(0, -1, 50), 0);
        Due.is("day least", x.holder(0, Integer.MIN_VALUE, 50), 0);
        Due.is("both most", x.holder(0, Integer.MAX_VALUE, Integer.MAX_VALUE), 2);
        Due.is("known on -1", x.holder(0, 50, -1), 0);
        Due.is("known on 49", x.holder(0, 50, 49), 0);
        Due.is("the other house", x.holder(1, 50, 50), 3);
        Due.is("house -1", x.holder(-1, 50, 50), -1);
        Due.is("house 2", x.holder(2, 50, 50), -1);
        Due.is("loose(0)", x.loose(0, 50), 0);
        Due.is("loose(1)", x.loose(1, 50), 0);
        Due.is("loose(2)", x.loose(2, 50), 1);
        Due.is("loose(3)", x.loose(3, 50), 0);
        Due.is("loose(3, most)", x.loose(3, Integer.MAX_VALUE), 0);
        Due.is("loose(-1)", x.loose(-1, 50), -1);
        Due.is("loose(4)", x.loose(4, 50), -1);
        Due.is("loose(0, 49)", x.loose(0, 49), -1);
        Due.is("loose(0, least)", x.loose(0, Integer.MIN_VALUE), -1);
    }

    private static void orderOfLikeDays() {
        HomeRoll x = office(50);
        x.paper(0, 1, 2, 20, 0, 0);
        x.paper(0, 0, 1, 20, 0, 0);
        Due.is("as they were told", x.holder(0, 20, 50), 1);
        Due.is("the first is loose", x.loose(0, 50), 1);
        x.paper(0, 1, 3, 20, 0, 0);
        Due.is("the third goes on", x.holder(0, 20, 50), 3);
        x.paper(0, 0, 4, 19, 0, 0);
        Due.is("one ahead of them", x.holder(0, 20, 50), 4);
        Due.is("makes the others loose", x.loose(2, 50), 1);
    }

    private static void foundLater() {
        HomeRoll x = office(50);
        x.paper(0, 0, 1, 40, 0, 0);
        x.later(10);
        x.paper(0, 0, 2, 30, 0, 0);
        Due.is("on 35 as known on 50", x.holder(0, 35, 50), 0);
        Due.is("on 35 as known on 59", x.holder(0, 35, 59), 0);
        Due.is("on 35 as known on 60", x.holder(0, 35, 60), 2);
        Due.is("on 50 as known on 59", x.holder(0, 50, 59), 1);
        Due.is("on 50 as known on 60", x.holder(0, 50, 60), 2);
        Due.is("loose(0, 59)", x.loose(0, 59), 0);
        Due.is("loose(0, 60)", x.loose(0, 60), 1);
        Due.is("loose(1, 59)", x.loose(1, 59), -1);
    }

    private static void falsePapers() {
        HomeRoll x = office(50);
        x.paper(0, 0, 1, 10, 0, 0);
        x.paper(0, 1, 2, 20, 0, 0);
        Due.is("isFalse(-1)", x.isFalse(-1), false);
        Due.is("isFalse(2)", x.isFalse(2), false);
        Due.is("isFalse(most)", x.isFalse(Integer.MAX_VALUE), false);
        x.later(5);
        Due.is("isFalse(0)", x.isFalse(0), true);
        x.later(5);
        Due.is("isFalse(0) again", x.isFalse(0), false);
        Due.is("as known on 54", x.holder(0, 50, 54), 2);
        Due.is("as known on 55", x.holder(0, 50, 55), 0);
        Due.is("as known for ever", x.holder(0, 50, Integer.MAX_VALUE), 0);
        Due.is("loose(0, 54)", x.loose(0, 54), 0);
        Due.is("loose(0, 55)", x.loose(0, 55), -1);
        Due.is("loose(1, 54)", x.loose(1, 54), 0);
        Due.is("loose(1, 55)", x.loose(1, 55), 1);
        Due.is("found and false on one day", x.paper(0, 0, 4, 60, 0, 0), 2);
        Due.is("isFalse(2)", x.isFalse(2), true);
        Due.is("it never counts", x.loose(2, 60), -1);
        Due.is("and changes nothing", x.holder(0, 60, 60), 0);
    }
}
