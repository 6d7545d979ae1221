/** Section 1 of the document's terms, a test for each sentence that names a bound: days, people, houses, papers. */
public final class Section1BoundsTest {
    private static final int LEAST = Integer.MIN_VALUE;
    private static final int MOST = Integer.MAX_VALUE;

    public static void main(String[] args) {
        days();
        years();
        yearsOfLevels();
        today();
        houses();
        firstHolders();
        worths();
        people();
        parents();
        deaths();
        toldOnce();
        levels();
        levelsAtFirst();
        cutMoney();
        papers();
        daysOfPapers();
        sorts();
        prices();
        pricesOfTheirYear();
        found();
        falseFromADay();
        asKnown();
        upToADay();
        orderOfDays();
        likeDays();
        goesOnFromItsHolder();
        loosePapers();
        Due.end("Section1BoundsTest");
    }

    private static HomeRoll office(int day) {
        HomeRoll x = Due.withPeople(4);
        x.house(0, 100);
        x.house(1, 200);
        Due.goTo(x, day);
        return x;
    }

    private static void days() {
        Due.sentence("DAYS are numbers 0 .. 36499");
        for (int day : new int[] {LEAST, -1, 36500, MOST}) {
            HomeRoll x = Due.withPeople(1);
            Due.is("dead(0, " + day + ")", x.dead(0, day), false);
            Due.is("share on " + day, x.share(0, 0, day, 0), -1);
        }
        for (int day : new int[] {0, 1, 36498, 36499}) {
            HomeRoll x = Due.withPeople(1);
            Due.is("share on " + day, x.share(0, 0, day, 0), 1);
            Due.is("dead(0, " + day + ")", x.dead(0, day), true);
            Due.is("share on " + day + ", dead", x.share(0, 0, day, 0), 0);
        }
        HomeRoll x = office(36499);
        Due.is("a paper of day 36499", x.paper(0, 0, 1, 36499, 0, 0), 0);
        Due.is("a paper of day 36500", x.paper(0, 0, 1, 36500, 0, 0), -1);
    }

    private static void years() {
        Due.sentence("a YEAR has 365 (0 .. 99)");
        HomeRoll x = office(36499);
        int[] days = {0, 364, 365, 729, 730, 36134, 36135, 36499};
        int[] years = {0, 0, 1, 1, 2, 98, 99, 99};
        for (int i = 0; i < days.length; i++) {
            x.paper(0, i % 2, 1 - i % 2, days[i], 0, 0);
            x.claim(i);
        }
        for (int i = 0; i < days.length; i++) {
            Due.is("year of day " + days[i], x.term(i, 4, 36499), years[i]);
        }
    }

    private static void yearsOfLevels() {
        Due.sentence("a YEAR has 365 (0 .. 99)");
        HomeRoll x = new HomeRoll();
        for (int year : new int[] {LEAST, -1, 100, MOST}) {
            Due.is("level(" + year + ", 7)", x.level(year, 7), false);
            Due.is("money(1, " + year + ", 0)", x.money(1, year, 0), -1);
            Due.is("money(1, 0, " + year + ")", x.money(1, 0, year), -1);
        }
        for (int year : new int[] {0, 1, 98, 99}) {
            Due.is("money(1, " + year + ", 50)", x.money(1, year, 50), 1);
            Due.is("money(1, 50, " + year + ")", x.money(1, 50, year), 1);
            Due.is("level(" + year + ", 7)", x.level(year, 7), true);
            Due.is("money(7, " + year + ", 50)", x.money(7, year, 50), 100);
        }
    }

    private static void today() {
        Due.sentence("TODAY is 0 at first and goes on");
        HomeRoll x = Due.withPeople(2);
        x.house(0, 1);
        Due.is("about(3) at first", x.about(3), 0);
        Due.is("a paper of day 1", x.paper(0, 0, 1, 1, 0, 0), -1);
        Due.is("a paper of day 0", x.paper(0, 0, 1, 0, 0, 0), 0);
        Due.is("it counts on 0", x.loose(0, 0), 0);
        Due.is("later(1)", x.later(1), 1);
        Due.is("about(3)", x.about(3), 1);
        Due.is("a paper of day 1", x.paper(0, 1, 0, 1, 0, 0), 1);
        Due.is("never back", x.later(-1), -1);
        Due.is("about(3)", x.about(3), 1);
    }

    private static void houses() {
        Due.sentence("HOUSES, 8 at most");
        HomeRoll x = Due.withPeople(2);
        for (int i = 0; i < 8; i++) {
            Due.is("house", x.house(0, 1), i);
        }
        Due.is("a 9th one", x.house(1, 2), -1);
        Due.is("about(1)", x.about(1), 8);
        Due.is("holder of the 8th", x.holder(7, 0, 0), 0);
        Due.is("holder of a 9th", x.holder(8, 0, 0), -1);
    }

    private static void firstHolders() {
        Due.sentence("have a first HOLDER (a PERSON)");
        HomeRoll x = new HomeRoll();
        Due.is("nobody there", x.house(0, 1), -1);
        x.person(-1, -1);
        x.person(-1, -1);
        for (int holder : new int[] {LEAST, -1, 2, 24, MOST}) {
            Due.is("house(" + holder + ", 1)", x.house(holder, 1), -1);
        }
        Due.is("house(0, 1)", x.house(0, 1), 0);
        Due.is("house(1, 1)", x.house(1, 1), 1);
        x.dead(1, 0);
        Due.is("of one who is dead", x.house(1, 1), 2);
        Due.is("holder(1)", x.holder(1, 0, 0), 1);
    }

    private static void worths() {
        Due.sentence("a WORTH (0 .. 1000000");
        HomeRoll x = Due.withPeople(2);
        for (int worth : new int[] {LEAST, -1, 1000001, MOST}) {
            Due.is("house(0, " + worth + ")", x.house(0, worth), -1);
        }
        Due.is("house(0, 0)", x.house(0, 0), 0);
        Due.is("house(0, 1000000)", x.house(0, 1000000), 1);
        x.paper(0, 0, 1, 0, 0, 0);
        x.paper(1, 0, 1, 0, 0, 0);
        x.claim(0);
        x.claim(1);
        x.level(99, 1);
        Due.is("worth of the first", x.term(0, 3, 0), 0);
        Due.is("worth of the second", x.term(1, 3, 0), 1000000);
    }

    private static void people() {
        Due.sentence("PEOPLE, 24 at most");
        HomeRoll x = new HomeRoll();
        for (int i = 0; i < 24; i++) {
            Due.is("person", x.person(-1, -1), i);
        }
        Due.is("a 25th one", x.person(-1, -1), -1);
        Due.is("a 25th one with parents", x.person(0, 1), -1);
        Due.is("about(0)", x.about(0), 24);
        Due.is("the 24th is there", x.house(23, 1), 0);
        Due.is("a 25th is not", x.house(24, 1), -1);
        x.dead(0, 0);
        Due.is("nobody is a child of the first", x.share(0, 23, 0, 0), 0);
    }

    private static void parents() {
        Due.sentence("each have a mother and a father among those ahead (or none)");
        HomeRoll x = Due.withPeople(3);
        for (int parent : new int[] {LEAST, -2, 3, 4, 24, MOST}) {
            Due.is("person(" + parent + ", 0)", x.person(parent, 0), -1);
            Due.is("person(0, " + parent + ")", x.person(0, parent), -1);
            Due.is("person(" + parent + ", -1)", x.person(parent, -1), -1);
            Due.is("person(-1, " + parent + ")", x.person(-1, parent), -1);
        }
        Due.is("about(0)", x.about(0), 3);
        Due.is("the first and the last ahead", x.person(0, 2), 3);
        Due.is("the last and the first ahead", x.person(3, 0), 4);
        Due.is("a mother alone", x.person(4, -1), 5);
        Due.is("a father alone", x.person(-1, 5), 6);
        Due.is("none", x.person(-1, -1), 7);
    }

    private static void deaths() {
        Due.sentence("may be DEAD from a day on");
        HomeRoll x = Due.withPeople(1);
        x.dead(0, 100);
        Due.is("on the day before", x.share(0, 0, 99, 0), 1);
        Due.is("on the day", x.share(0, 0, 100, 0), 0);
        Due.is("on the day behind", x.share(0, 0, 101, 0), 0);
        Due.is("on the first day", x.share(0, 0, 0, 0), 1);
        Due.is("on the last day", x.share(0, 0, 36499, 0), 0);
        HomeRoll y = Due.withPeople(2);
        y.dead(1, 36499);
        Due.is("from the last day on", y.share(1, 1, 36498, 0), 1);
        Due.is("from the last day on", y.share(1, 1, 36499, 0), 0);
        Due.is("never", y.share(0, 0, 36499, 0), 1);
    }

    private static void toldOnce() {
        Due.sentence("(told once)");
        HomeRoll x = Due.withPeople(2);
        Due.is("a day that is none", x.dead(0, -1), false);
        Due.is("told", x.dead(0, 100), true);
        Due.is("told again", x.dead(0, 100), false);
        Due.is("told of an earlier day", x.dead(0, 50), false);
        Due.is("told of a later day", x.dead(0, 150), false);
        Due.is("it stays on 99", x.share(0, 0, 99, 0), 1);
        Due.is("it stays on 100", x.share(0, 0, 100, 0), 0);
        Due.is("another one's day 0", x.dead(1, 0), true);
        Due.is("another one's day 0 again", x.dead(1, 0), false);
    }

    private static void levels() {
        Due.sentence("MONEY of a YEAR has a LEVEL (1 .. 10000");
        HomeRoll x = new HomeRoll();
        for (int level : new int[] {LEAST, -1, 0, 10001, MOST}) {
            Due.is("level(5, " + level + ")", x.level(5, level), false);
            Due.is("it is 100 still", x.money(1, 6, 5), 1);
        }
        Due.is("level(5, 1)", x.level(5, 1), true);
        Due.is("it is 1", x.money(100, 6, 5), 1);
        Due.is("level(5, 0)", x.level(5, 0), false);
        Due.is("it is 1 still", x.money(100, 6, 5), 1);
        Due.is("level(5, 10000)", x.level(5, 10000), true);
        Due.is("it is 10000", x.money(1, 6, 5), 100);
        Due.is("level(5, 10001)", x.level(5, 10001), false);
        Due.is("it is 10000 still", x.money(1, 6, 5), 100);
    }

    private static void levelsAtFirst() {
        Due.sentence("100 at first");
        HomeRoll x = new HomeRoll();
        x.level(50, 1);
        for (int year = 0; year < 100; year++) {
            Due.is("level of " + year, x.money(1, 50, year), year == 50 ? 1 : 100);
        }
    }

    private static void cutMoney() {
        Due.sentence("sum * LEVEL there / LEVEL here (cut)");
        HomeRoll x = new HomeRoll();
        x.level(0, 1);
        x.level(1, 3);
        x.level(99, 10000);
        Due.is("just less than 1", x.money(9999, 99, 0), 0);
        Due.is("just 1", x.money(10000, 99, 0), 1);
        Due.is("just less than 2", x.money(19999, 99, 0), 1);
        Due.is("2 of 3", x.money(200, 1, 0), 66);
        Due.is("multiplied before it is divided", x.money(2, 1, 99), 6666);
        Due.is("the greatest", x.money(1000000, 0, 99), 10000000000L);
        Due.is("just above an int", x.money(214749, 0, 99), 2147490000L);
        Due.is("the greatest there and back in one year", x.money(1000000, 99, 99), 1000000);
        Due.is("nothing", x.money(0, 0, 99), 0);
    }

    private static void papers() {
        Due.sentence("PAPERS, 60 at most");
        HomeRoll x = office(1);
        for (int i = 0; i < 60; i++) {
            Due.is("paper", x.paper(i % 2, 2, 3, 1, 0, 0), i);
        }
        Due.is("a 61st one", x.paper(0, 0, 1, 1, 0, 0), -1);
        Due.is("about(2)", x.about(2), 60);
        Due.is("it moves no house", x.holder(0, 1, 1), 0);
        Due.is("the 60th is there", x.loose(59, 1), 1);
        Due.is("a 61st is not", x.loose(60, 1), -1);
        Due.is("one that is false leaves no room", x.isFalse(0), true);
        Due.is("a 61st one", x.paper(0, 0, 1, 1, 0, 0), -1);
    }

    private static void daysOfPapers() {
        Due.sentence("on a day (not after TODAY)");
        HomeRoll x = office(10);
        for (int day : new int[] {LEAST, -1, 11, 36499, MOST}) {
            Due.is("day " + day, x.paper(0, 0, 1, day, 0, 0), -1);
        }
        Due.is("day 0", x.paper(0, 0, 1, 0, 0, 0), 0);
        Due.is("day 10", x.paper(0, 1, 0, 10, 0, 0), 1);
        x.later(1);
        Due.is("day 11, a day later", x.paper(0, 0, 1, 11, 0, 0), 2);
        Due.is("day 12", x.paper(0, 1, 0, 12, 0, 0), -1);
    }

    private static void sorts() {
        Due.sentence("SOLD (0), FORCED (1) or GIVEN (2)");
        HomeRoll x = office(10);
        for (int sort : new int[] {LEAST, -1, 3, MOST}) {
            Due.is("sort " + sort, x.paper(0, 0, 1, 5, sort, 0), -1);
        }
        for (int sort = 0; sort < 3; sort++) {
            Due.is("sort " + sort, x.paper(0, sort % 2, 1 - sort % 2, 5, sort, 0), sort);
            x.claim(sort);
            Due.is("forced by sort " + sort, x.term(sort, 0, 10), sort == 1 ? 1 : 0);
            Due.is("given by sort " + sort, x.term(sort, 1, 10), sort == 2 ? 1 : 0);
        }
    }

    private static void prices() {
        Due.sentence("at a price (0 .. 1000000; in money of its YEAR)");
        HomeRoll x = office(10);
        for (int price : new int[] {LEAST, -1, 1000001, MOST}) {
            Due.is("price " + price, x.paper(0, 0, 1, 5, 0, price), -1);
        }
        Due.is("price 0", x.paper(0, 0, 1, 5, 0, 0), 0);
        Due.is("price 1000000", x.paper(0, 1, 0, 5, 0, 1000000), 1);
        x.claim(0);
        x.claim(1);
        Due.is("price of the first", x.term(0, 2, 10), 0);
        Due.is("price of the second", x.term(1, 2, 10), 1000000);
    }

    /** The year of the paper's day, not that of the day on which it was found. */
    private static void pricesOfTheirYear() {
        Due.sentence("at a price (0 .. 1000000; in money of its YEAR)");
        HomeRoll x = office(730);
        x.level(0, 10);
        x.level(1, 20);
        x.level(2, 50);
        x.paper(0, 0, 1, 364, 0, 7);
        x.paper(0, 1, 0, 365, 0, 7);
        x.paper(0, 0, 1, 729, 0, 7);
        x.paper(0, 1, 0, 730, 0, 7);
        int[] due = {70, 35, 35, 14};
        for (int i = 0; i < due.length; i++) {
            x.claim(i);
            Due.is("price of paper " + i, x.term(i, 2, 730), due[i]);
        }
    }

    private static void found() {
        Due.sentence("A PAPER is FOUND on TODAY");
        HomeRoll x = office(50);
        x.paper(0, 0, 1, 20, 0, 0);
        x.later(1);
        x.paper(0, 1, 2, 20, 0, 0);
        Due.is("the first on its own day", x.loose(0, 20), -1);
        Due.is("the first on 49", x.loose(0, 49), -1);
        Due.is("the first on 50", x.loose(0, 50), 0);
        Due.is("the second on 50", x.loose(1, 50), -1);
        Due.is("the second on 51", x.loose(1, 51), 0);
    }

    private static void falseFromADay() {
        Due.sentence("may be FALSE from a later day on, or the same");
        HomeRoll x = office(50);
        x.paper(0, 0, 1, 20, 0, 0);
        x.paper(1, 1, 2, 20, 0, 0);
        Due.is("on the same day", x.isFalse(0), true);
        Due.is("it does not count on 49", x.loose(0, 49), -1);
        Due.is("it does not count on 50", x.loose(0, 50), -1);
        Due.is("it does not count on 51", x.loose(0, 51), -1);
        x.later(7);
        Due.is("on a later day", x.isFalse(1), true);
        Due.is("it does not count on 49", x.loose(1, 49), -1);
        Due.is("it counts on 50", x.loose(1, 50), 0);
        Due.is("it counts on 56", x.loose(1, 56), 0);
        Due.is("it does not count on 57", x.loose(1, 57), -1);
        HomeRoll y = Due.withPeople(2);
        y.house(0, 1);
        y.paper(0, 0, 1, 0, 0, 0);
        Due.is("on day 0", y.isFalse(0), true);
        Due.is("it never counts", y.loose(0, 0), -1);
    }

    private static void asKnown() {
        Due.sentence("it counts, if it was FOUND on k or before and not FALSE on k or before");
        HomeRoll x = office(50);
        x.paper(0, 0, 1, 20, 0, 0);
        x.later(10);
        x.isFalse(0);
        int[] days = {LEAST, -1, 0, 20, 49, 50, 51, 59, 60, 61, 36499, 36500, MOST};
        for (int k : days) {
            boolean counts = k >= 50 && k <= 59;
            Due.is("loose(0, " + k + ")", x.loose(0, k), counts ? 0 : -1);
            Due.is("holder as known on " + k, x.holder(0, 60, k), counts ? 1 : 0);
        }
        HomeRoll y = office(50);
        y.paper(0, 0, 1, 20, 0, 0);
        for (int k : days) {
            Due.is("never false, as known on " + k, y.loose(0, k), k >= 50 ? 0 : -1);
        }
    }

    private static void upToADay() {
        Due.sentence("PAPERS that count, of days up to d");
        HomeRoll x = office(36499);
        x.paper(0, 0, 1, 0, 0, 0);
        x.paper(0, 1, 2, 100, 0, 0);
        x.paper(0, 2, 3, 36499, 0, 0);
        int[] days = {LEAST, -1, 0, 99, 100, 101, 36498, 36499, 36500, MOST};
        int[] due = {0, 0, 1, 1, 2, 2, 2, 3, 3, 3};
        for (int i = 0; i < days.length; i++) {
            Due.is("holder on " + days[i], x.holder(0, days[i], 36499), due[i]);
        }
    }

    private static void orderOfDays() {
        Due.sentence("in order of their days (of like ones as they were told)");
        HomeRoll x = office(100);
        for (int i = 0; i < 60; i++) {
            x.paper(0, (59 - i) % 3, (60 - i) % 3, 60 - i, 0, 0);
        }
        for (int i = 0; i < 60; i++) {
            Due.is("told from the last to the first: loose(" + i + ")", x.loose(i, 100), 0);
            Due.is("holder on " + i, x.holder(0, i, 100), i % 3);
        }
        Due.is("holder on 60", x.holder(0, 60, 100), 0);
    }

    private static void likeDays() {
        Due.sentence("in order of their days (of like ones as they were told)");
        HomeRoll x = office(100);
        for (int i = 0; i < 60; i++) {
            x.paper(0, i % 3, (i + 1) % 3, 7, 0, 0);
        }
        for (int i = 0; i < 60; i++) {
            Due.is("all of one day: loose(" + i + ")", x.loose(i, 100), 0);
        }
        Due.is("holder on 6", x.holder(0, 6, 100), 0);
        Due.is("holder on 7", x.holder(0, 7, 100), 0);
        HomeRoll y = office(100);
        y.paper(0, 1, 2, 7, 0, 0);
        y.paper(0, 0, 1, 7, 0, 0);
        Due.is("the first is loose", y.loose(0, 100), 1);
        Due.is("the second is not", y.loose(1, 100), 0);
        Due.is("holder on 7", y.holder(0, 7, 100), 1);
        y.later(1);
        y.paper(0, 1, 3, 7, 0, 0);
        Due.is("one told on a later day comes last", y.holder(0, 7, 101), 3);
    }

    private static void goesOnFromItsHolder() {
        Due.sentence("each by whose first PERSON it was held then goes on to the second");
        HomeRoll x = office(100);
        x.paper(0, 0, 1, 10, 0, 0);
        x.paper(0, 0, 2, 20, 0, 0);
        x.paper(0, 1, 0, 30, 0, 0);
        x.paper(0, 0, 3, 40, 0, 0);
        Due.is("holder on 10", x.holder(0, 10, 100), 1);
        Due.is("not by one who held it once", x.holder(0, 20, 100), 1);
        Due.is("back to the first one", x.holder(0, 30, 100), 0);
        Due.is("by one who holds it again", x.holder(0, 40, 100), 3);
        Due.is("the other house stays", x.holder(1, 100, 100), 1);
        x.dead(3, 0);
        x.paper(0, 3, 1, 50, 0, 0);
        Due.is("by one who is dead", x.holder(0, 50, 100), 1);
    }

    private static void loosePapers() {
        Due.sentence("others are LOOSE: they change nothing");
        HomeRoll x = office(100);
        x.paper(0, 1, 2, 10, 0, 0);
        x.paper(0, 2, 3, 10, 0, 0);
        x.paper(1, 0, 2, 10, 0, 0);
        Due.is("loose(0)", x.loose(0, 100), 1);
        Due.is("a loose one makes no holder", x.loose(1, 100), 1);
        Due.is("the holder of another house", x.loose(2, 100), 1);
        Due.is("holder of 0", x.holder(0, 100, 100), 0);
        Due.is("holder of 1", x.holder(1, 100, 100), 1);
        x.later(1);
        x.paper(0, 0, 1, 9, 0, 0);
        Due.is("loose(0) as known before", x.loose(0, 100), 1);
        Due.is("loose(0) by one that was found", x.loose(0, 101), 0);
        Due.is("loose(1) by one that was found", x.loose(1, 101), 0);
        Due.is("holder of 0", x.holder(0, 100, 101), 3);
    }
}
