/** Section 2 of the document's terms, a test for each sentence that names a bound: claims, terms and rulings. */
public final class Section2ClaimBoundsTest {
    private static final int LEAST = Integer.MIN_VALUE;
    private static final int MOST = Integer.MAX_VALUE;
    private static final int WORTH = 3;
    private static final int HELD = 5;
    private static final int HANDS = 6;
    private static final int LIVES = 7;
    private static final int DEAD = 8;

    public static void main(String[] args) {
        byOnePaper();
        thirtyClaims();
        countsAndIsNotLoose();
        forcedAndGiven();
        priceOfYear99();
        greatestPrice();
        worth();
        year();
        heldInWholeYears();
        heldSinceItCameLast();
        heldByTheFirstHolder();
        handsBehindIt();
        handsUpToADay();
        livesThere();
        dead();
        wrappingInts();
        relationsOfInts();
        truths();
        valuesWithinOthers();
        firstLine();
        noneSuch();
        sumOfMoney();
        sumOfOthers();
        Due.end("Section2ClaimBoundsTest");
    }

    private static HomeRoll office(int day) {
        HomeRoll x = Due.withPeople(5);
        x.house(0, 1000);
        x.house(1, 333);
        Due.goTo(x, day);
        return x;
    }

    private static void byOnePaper() {
        Due.sentence("A CLAIM is by one PAPER (its first PERSON lost the HOUSE by it)");
        HomeRoll x = office(1);
        x.paper(0, 0, 1, 1, 1, 0);
        x.paper(1, 1, 0, 1, 2, 0);
        x.claim(1);
        x.claim(0);
        x.dead(1, 1);
        Due.is("worth by the second paper", x.term(0, WORTH, 1), 333);
        Due.is("given by the second paper", x.term(0, 1, 1), 1);
        Due.is("its first person is dead", x.term(0, DEAD, 1), 1);
        Due.is("worth by the first paper", x.term(1, WORTH, 1), 1000);
        Due.is("forced by the first paper", x.term(1, 0, 1), 1);
        Due.is("its second person is dead", x.term(1, DEAD, 1), 0);
    }

    private static void thirtyClaims() {
        Due.sentence("CLAIMS, 30 at most");
        HomeRoll x = office(1);
        for (int i = 0; i < 32; i++) {
            x.paper(0, i % 2, 1 - i % 2, 1, 0, i);
        }
        for (int i = 0; i < 30; i++) {
            Due.is("claim", x.claim(i), i);
        }
        Due.is("a 31st one", x.claim(30), -1);
        Due.is("a 32nd one", x.claim(31), -1);
        Due.is("about(5)", x.about(5), 30);
        Due.is("price of the 30th", x.term(29, 2, 1), 29);
        Due.is("price of a 31st", x.term(30, 2, 1), -1);
    }

    private static void countsAndIsNotLoose() {
        Due.sentence("As known on k (the PAPER counts then, and is not LOOSE)");
        HomeRoll x = office(50);
        x.paper(0, 1, 2, 30, 0, 0);
        x.claim(0);
        x.later(10);
        x.paper(0, 0, 1, 20, 0, 0);
        x.later(10);
        x.isFalse(0);
        int[] days = {LEAST, -1, 30, 49, 50, 59, 60, 69, 70, MOST};
        for (int k : days) {
            boolean isFine = k >= 60 && k <= 69;
            Due.is("ruling on " + k, x.ruling(0, k), isFine ? 4 : -1);
            Due.is("sum on " + k, x.sum(0, k), isFine ? 0 : -1);
            Due.is("term on " + k, x.term(0, WORTH, k), isFine ? 1000 : -1);
        }
    }

    private static void forcedAndGiven() {
        Due.sentence("forced, given 1 or 0 by its sort");
        HomeRoll x = office(1);
        for (int sort = 0; sort < 3; sort++) {
            x.paper(0, sort, sort + 1, 1, sort, 0);
            x.claim(sort);
        }
        int[] forced = {0, 1, 0};
        int[] given = {0, 0, 1};
        for (int sort = 0; sort < 3; sort++) {
            Due.is("forced of sort " + sort, x.term(sort, 0, 1), forced[sort]);
            Due.is("given of sort " + sort, x.term(sort, 1, 1), given[sort]);
        }
    }

    private static void priceOfYear99() {
        Due.sentence("price: its price in money of YEAR 99");
        HomeRoll x = office(36499);
        x.paper(0, 0, 1, 36134, 0, 10);
        x.paper(0, 1, 2, 36135, 0, 10);
        x.claim(0);
        x.claim(1);
        x.level(98, 300);
        x.level(99, 200);
        Due.is("of year 98 (cut)", x.term(0, 2, 36499), 6);
        Due.is("of year 99 itself", x.term(1, 2, 36499), 10);
        x.level(98, 1);
        Due.is("by a level that was told behind it", x.term(0, 2, 36499), 2000);
    }

    private static void greatestPrice() {
        Due.sentence("(2147483647 at most)");
        price(926838, 1, 2317, 2147483646);
        price(983055, 2, 4369, 2147483647);
        price(524288, 1, 4096, 2147483647);
        price(1000000, 1, 10000, 2147483647);
        price(1000000, 1, 4294, 2147483647);
        price(1000000, 1, 4295, 2147483647);
    }

    private static void price(int price, int here, int there, int due) {
        HomeRoll x = office(0);
        x.paper(0, 0, 1, 0, 0, price);
        x.claim(0);
        x.level(0, here);
        x.level(99, there);
        Due.is(price + " * " + there + " / " + here, x.term(0, 2, 0), due);
    }

    private static void worth() {
        Due.sentence("worth: the HOUSE's WORTH");
        HomeRoll x = Due.withPeople(2);
        int[] worths = {0, 1, 1000000};
        x.level(99, 7);
        for (int i = 0; i < worths.length; i++) {
            x.house(0, worths[i]);
            x.paper(i, 0, 1, 0, 0, 5);
            x.claim(i);
            Due.is("worth", x.term(i, WORTH, 0), worths[i]);
        }
    }

    private static void year() {
        Due.sentence("year: the YEAR of its day");
        HomeRoll x = office(800);
        int[] days = {0, 364, 365, 729, 730, 800};
        int[] years = {0, 0, 1, 1, 2, 2};
        for (int i = 0; i < days.length; i++) {
            x.paper(0, i % 2, 1 - i % 2, days[i], 0, 0);
            x.claim(i);
        }
        for (int i = 0; i < days.length; i++) {
            Due.is("year of " + days[i], x.term(i, 4, 800), years[i]);
        }
    }

    private static void heldInWholeYears() {
        Due.sentence("held: how many YEARS (whole 365 days) the first PERSON had held it then");
        int[] days = {0, 1, 364, 365, 366, 729, 730, 36134, 36135};
        int[] years = {0, 0, 0, 1, 1, 1, 2, 98, 99};
        for (int i = 0; i < days.length; i++) {
            HomeRoll x = office(36499);
            x.paper(0, 0, 1, 300, 0, 0);
            x.paper(0, 1, 2, 300 + days[i], 0, 0);
            x.claim(1);
            Due.is(days[i] + " days", x.term(0, HELD, 36499), years[i]);
        }
        HomeRoll y = office(400);
        y.paper(0, 0, 1, 10, 0, 0);
        y.paper(0, 1, 2, 374, 0, 0);
        y.claim(1);
        Due.is("of two years, but not a whole one", y.term(0, HELD, 400), 0);
    }

    private static void heldSinceItCameLast() {
        Due.sentence("since the day on which it came to that PERSON last");
        HomeRoll x = office(3000);
        x.paper(0, 0, 1, 100, 0, 0);
        x.paper(0, 1, 2, 500, 0, 0);
        x.paper(0, 2, 1, 1500, 0, 0);
        x.paper(0, 1, 3, 2000, 0, 0);
        x.paper(0, 3, 1, 2100, 0, 0);
        x.claim(3);
        Due.is("not since it came first, nor behind it", x.term(0, HELD, 3000), 1);
        x.later(1);
        x.paper(0, 4, 1, 1900, 0, 0);
        Due.is("a loose one brings it not", x.term(0, HELD, 3001), 1);
        x.paper(0, 1, 0, 1600, 0, 0);
        x.paper(0, 0, 1, 1700, 0, 0);
        Due.is("as known on 3001", x.term(0, HELD, 3001), 0);
        Due.is("as known on 3000", x.term(0, HELD, 3000), 1);
    }

    private static void heldByTheFirstHolder() {
        Due.sentence("(day 0 of the first HOLDER)");
        int[] days = {0, 364, 365, 729, 730, 36499};
        int[] years = {0, 0, 1, 1, 2, 99};
        for (int i = 0; i < days.length; i++) {
            HomeRoll x = office(36499);
            x.paper(0, 0, 1, days[i], 0, 0);
            x.claim(0);
            Due.is("on " + days[i], x.term(0, HELD, 36499), years[i]);
        }
        HomeRoll y = office(2000);
        y.house(3, 1);
        y.paper(2, 3, 1, 800, 0, 0);
        y.paper(2, 1, 3, 900, 0, 0);
        y.paper(2, 3, 1, 1300, 0, 0);
        y.claim(0);
        y.claim(2);
        Due.is("a house that was told on 2000", y.term(0, HELD, 2000), 2);
        Due.is("the first holder again", y.term(1, HELD, 2000), 1);
    }

    private static void handsBehindIt() {
        Due.sentence("hands: how many PAPERS that count and are not LOOSE came behind it");
        HomeRoll x = office(100);
        x.paper(0, 1, 2, 50, 0, 0);
        x.paper(0, 0, 1, 20, 0, 0);
        x.claim(1);
        x.claim(0);
        Due.is("one, though told ahead", x.term(0, HANDS, 100), 1);
        Due.is("none behind the last", x.term(1, HANDS, 100), 0);
        x.paper(0, 4, 3, 60, 0, 0);
        Due.is("a loose one", x.term(0, HANDS, 100), 1);
        x.paper(1, 1, 3, 60, 0, 0);
        Due.is("one of another house", x.term(0, HANDS, 100), 1);
        x.paper(0, 2, 3, 60, 0, 0);
        Due.is("another one", x.term(0, HANDS, 100), 2);
        x.isFalse(4);
        Due.is("it is false", x.term(0, HANDS, 100), 1);
        x.paper(0, 1, 3, 20, 0, 0);
        Due.is("of its own day, told behind it", x.term(0, HANDS, 100), 1);
        HomeRoll y = office(100);
        for (int i = 0; i < 60; i++) {
            y.paper(0, i % 2, 1 - i % 2, 7, 0, 0);
        }
        y.claim(0);
        Due.is("59 at most", y.term(0, HANDS, 100), 59);
    }

    private static void handsUpToADay() {
        Due.sentence("came behind it, up to k");
        HomeRoll x = office(100);
        x.paper(0, 0, 1, 20, 0, 0);
        x.claim(0);
        x.later(1);
        x.paper(0, 1, 2, 30, 0, 0);
        x.later(1);
        x.paper(0, 2, 3, 102, 0, 0);
        x.later(1);
        x.isFalse(2);
        int[] days = {99, 100, 101, 102, 103, MOST};
        int[] due = {-1, 0, 1, 2, 1, 1};
        for (int i = 0; i < days.length; i++) {
            Due.is("as known on " + days[i], x.term(0, HANDS, days[i]), due[i]);
        }
    }

    private static void livesThere() {
        Due.sentence("lives: 1 if its second PERSON holds it still at the end of day k, else 0");
        HomeRoll x = office(100);
        x.paper(0, 0, 1, 20, 0, 0);
        x.claim(0);
        x.later(1);
        x.paper(0, 1, 2, 101, 0, 0);
        x.claim(1);
        x.later(1);
        x.isFalse(1);
        int[] days = {99, 100, 101, 102, MOST};
        int[] first = {-1, 1, 0, 1, 1};
        int[] second = {-1, -1, 1, -1, -1};
        for (int i = 0; i < days.length; i++) {
            Due.is("the first on " + days[i], x.term(0, LIVES, days[i]), first[i]);
            Due.is("the second on " + days[i], x.term(1, LIVES, days[i]), second[i]);
        }
        x.dead(1, 0);
        Due.is("one who is dead holds it", x.term(0, LIVES, 102), 1);
        x.paper(0, 1, 3, 102, 0, 0);
        Due.is("not at the end of the day", x.term(0, LIVES, 102), 0);
    }

    private static void dead() {
        Due.sentence("dead: 1 if the first PERSON is DEAD on k");
        HomeRoll x = office(100);
        x.paper(0, 0, 1, 100, 0, 0);
        x.claim(0);
        x.dead(1, 0);
        Due.is("the second person", x.term(0, DEAD, 100), 0);
        x.dead(0, 101);
        int[] days = {99, 100, 101, 102, 36499, MOST};
        int[] due = {-1, 0, 1, 1, 1, 1};
        for (int i = 0; i < days.length; i++) {
            Due.is("on " + days[i], x.term(0, DEAD, days[i]), due[i]);
        }
        HomeRoll y = Due.withPeople(2);
        y.house(0, 1);
        y.paper(0, 0, 1, 0, 0, 0);
        y.claim(0);
        y.dead(0, 0);
        Due.is("dead from day 0 on", y.term(0, DEAD, 0), 1);
        HomeRoll z = office(0);
        z.paper(0, 0, 1, 0, 0, 0);
        z.claim(0);
        Due.is("never", z.term(0, DEAD, MOST), 0);
    }

    /** The greatest price is the greatest int, so that sums can go around. */
    private static HomeRoll dear() {
        HomeRoll x = office(0);
        x.level(0, 1);
        x.level(99, 10000);
        x.paper(0, 0, 1, 0, 0, 1000000);
        x.claim(0);
        return x;
    }

    private static void holds(HomeRoll x, String e, boolean due) {
        Due.is("law with " + e, Due.law(x, "when " + e + " do back;"), 1);
        Due.is(e, x.ruling(0, 0), due ? 1 : 4);
    }

    private static void wrappingInts() {
        Due.sentence("Ints;");
        HomeRoll x = dear();
        holds(x, "price > 0", true);
        holds(x, "price + 1 < 0", true);
        holds(x, "price + 1 + price + 1 = 0", true);
        holds(x, "price + price = 0 - 2", true);
        holds(x, "price + price + 2", false);
        holds(x, "0 - price < 0", true);
        holds(x, "0 - price - 1 < 0", true);
        holds(x, "0 - price - 1 = price + 1", true);
        holds(x, "0 - price - 2 = price", true);
        holds(x, "0 - price - 2 > 0", true);
        holds(x, "price - price", false);
    }

    private static void relationsOfInts() {
        Due.sentence("relations 1 or 0");
        HomeRoll x = dear();
        String least = "0-price-1";
        holds(x, least + "<price", true);
        holds(x, "price<" + least, false);
        holds(x, least + ">price", false);
        holds(x, "price>" + least, true);
        holds(x, least + "=price", false);
        holds(x, least + "<1", true);
        holds(x, "1>" + least, true);
        holds(x, "price<price", false);
        holds(x, "price>price", false);
        holds(x, "price=price", true);
        holds(x, "9999999<9999999+1", true);
        holds(x, "0=0", true);
        holds(x, "0<0", false);
        holds(x, "0>0", false);
        holds(x, "0-1<0", true);
        holds(x, "0-1>0", false);
    }

    private static void truths() {
        Due.sentence("and, or, not as truths (not 0)");
        HomeRoll x = dear();
        String[] values = {"0", "1", "2", "4", "9999999", "0-1", "0-price-1"};
        for (String a : values) {
            boolean isA = !a.equals("0");
            holds(x, a, isA);
            holds(x, "not " + a, !isA);
            holds(x, "not not " + a, isA);
        }
        HomeRoll y = dear();
        for (String a : new String[] {"0", "2", "0-1"}) {
            for (String b : new String[] {"0", "4", "0-price-1"}) {
                boolean isA = !a.equals("0");
                boolean isB = !b.equals("0");
                holds(y, a + " and " + b, isA && isB);
                holds(y, a + " or " + b, isA || isB);
            }
        }
        holds(y, "2 and 4 and 8", true);
        holds(y, "1 or 0 and 0", true);
        holds(y, "0 and 0 or 1", true);
        holds(y, "not 0 and 0", false);
        holds(y, "not 1 or 1", true);
    }

    /** As many sides as can be wait for the innermost one. */
    private static void valuesWithinOthers() {
        Due.sentence("and, or, not as truths (not 0)");
        HomeRoll x = dear();
        String open = "0 or 1 and (".repeat(5) + "0 or 1 and ";
        String close = ")".repeat(5);
        holds(x, open + "2+3=4+1" + close, true);
        holds(x, open + "2+3=4-1" + close, false);
        holds(x, open + "2-3<4-1" + close, true);
        holds(x, open + "2-3>4-1" + close, false);
        holds(x, "1 and not (".repeat(2) + "1 and not 2+3=4+1" + "))", false);
        holds(x, "1 and not (".repeat(2) + "1 and not 2+3=4-1" + "))", true);
    }

    private static void firstLine() {
        Due.sentence("RULING: that of the first line whose e is not 0: 1 back, 2 other, 3 money, 4 none");
        HomeRoll x = dear();
        String[] rulings = {"back", "other", "money 7", "none"};
        for (int i = 0; i < rulings.length; i++) {
            Due.law(x, "when 0 do none;when 1 do " + rulings[i] + ";when 1 do back;when 1 do other;");
            Due.is("ruling " + rulings[i], x.ruling(0, 0), i + 1);
        }
        Due.law(x, "when 0-1 do other;when 1 do back;");
        Due.is("a line below 0", x.ruling(0, 0), 2);
        Due.law(x, "when 1-1 do other;when 2 do back;");
        Due.is("a line of 0", x.ruling(0, 0), 1);
        Due.law(x, "when 0 do other;".repeat(15) + "when 1 do back;");
        Due.is("the 16th line", x.ruling(0, 0), 1);
    }

    private static void noneSuch() {
        Due.sentence("4 if there is none such");
        HomeRoll x = dear();
        Due.is("without a law", x.ruling(0, 0), 4);
        Due.law(x, "when 0 do back;when 1-1 do other;when 1<0 do money 9;");
        Due.is("no line that holds", x.ruling(0, 0), 4);
        Due.is("its sum", x.sum(0, 0), 0);
        Due.law(x, "when 0 do back;".repeat(16));
        Due.is("none of 16 lines", x.ruling(0, 0), 4);
        Due.is("its sum", x.sum(0, 0), 0);
        Due.law(x, "");
        Due.is("a law without lines", x.ruling(0, 0), 4);
        Due.is("its sum", x.sum(0, 0), 0);
    }

    private static void sumOfMoney() {
        Due.sentence("The SUM of money: WORTH * N / 100 (cut)");
        int[] worths = {0, 1, 1, 1, 199, 333, 333, 1000000, 1000000, 1000000, 999999};
        int[] percents = {100, 0, 99, 100, 50, 33, 1, 100, 1, 0, 99};
        int[] due = {0, 0, 0, 1, 99, 109, 3, 1000000, 10000, 0, 989999};
        for (int i = 0; i < worths.length; i++) {
            HomeRoll x = Due.withPeople(2);
            x.house(0, worths[i]);
            x.paper(0, 0, 1, 0, 0, 0);
            x.claim(0);
            Due.law(x, "when 1 do money " + percents[i] + ";");
            Due.is("ruling", x.ruling(0, 0), 3);
            Due.is(percents[i] + " of 100 of " + worths[i], x.sum(0, 0), due[i]);
        }
    }

    private static void sumOfOthers() {
        Due.sentence("of others 0");
        HomeRoll x = dear();
        for (String ruling : new String[] {"back", "other", "none"}) {
            Due.law(x, "when 0 do money 50;when 1 do " + ruling + ";when 1 do money 50;");
            Due.is("sum of " + ruling, x.sum(0, 0), 0);
        }
    }
}
