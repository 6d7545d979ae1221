/** Promises 16 to 19: claims, rulings, sums and terms. */
public final class ClaimsTest {
    public static void main(String[] args) {
        claims();
        mostClaims();
        sortsAndPrices();
        held();
        handsAndLives();
        deadOnADay();
        noTerms();
        rulings();
        values();
        Due.end("ClaimsTest");
    }

    private static HomeRoll office(int day) {
        HomeRoll x = Due.withPeople(6);
        x.house(0, 1000);
        x.house(1, 333);
        Due.goTo(x, day);
        return x;
    }

    private static void claims() {
        HomeRoll x = office(10);
        Due.is("claim(0) without papers", x.claim(0), -1);
        x.paper(0, 0, 1, 5, 0, 0);
        x.paper(0, 4, 5, 5, 0, 0);
        x.paper(0, 1, 2, 6, 0, 0);
        x.isFalse(2);
        Due.is("claim(-1)", x.claim(-1), -1);
        Due.is("claim(3)", x.claim(3), -1);
        Due.is("claim(1), a loose one", x.claim(1), 0);
        Due.is("claim(1) again", x.claim(1), -1);
        Due.is("claim(2), a false one", x.claim(2), 1);
        Due.is("claim(0)", x.claim(0), 2);
        Due.is("about(5)", x.about(5), 3);
        Due.is("ruling of a loose one", x.ruling(0, 10), -1);
        Due.is("sum of a loose one", x.sum(0, 10), -1);
        Due.is("term of a loose one", x.term(0, 3, 10), -1);
        Due.is("ruling of a false one", x.ruling(1, 10), -1);
        Due.is("sum of a false one", x.sum(1, 10), -1);
        Due.is("term of a false one", x.term(1, 3, 10), -1);
        Due.is("ruling without a law", x.ruling(2, 10), 4);
        Due.is("sum without a law", x.sum(2, 10), 0);
    }

    private static void mostClaims() {
        HomeRoll x = office(10);
        for (int i = 0; i < 31; i++) {
            x.paper(0, i % 2, 1 - i % 2, 5, 0, 0);
        }
        for (int i = 0; i < 30; i++) {
            Due.is("claim", x.claim(30 - i), i);
        }
        Due.is("31st claim", x.claim(0), -1);
        Due.is("about(5)", x.about(5), 30);
        Due.is("hands of the last one", x.term(29, 6, 10), 29);
    }

    private static void sortsAndPrices() {
        HomeRoll x = office(800);
        x.paper(0, 0, 1, 0, 0, 10);
        x.paper(0, 1, 2, 364, 1, 1000000);
        x.paper(0, 2, 3, 365, 2, 7);
        for (int i = 0; i < 3; i++) {
            x.claim(i);
        }
        Due.is("sold: forced", x.term(0, 0, 800), 0);
        Due.is("sold: given", x.term(0, 1, 800), 0);
        Due.is("forced: forced", x.term(1, 0, 800), 1);
        Due.is("forced: given", x.term(1, 1, 800), 0);
        Due.is("given: forced", x.term(2, 0, 800), 0);
        Due.is("given: given", x.term(2, 1, 800), 1);
        Due.is("price at the level of 99", x.term(0, 2, 800), 10);
        x.level(0, 3);
        x.level(1, 200);
        Due.is("price of year 0", x.term(0, 2, 800), 333);
        Due.is("price of year 1", x.term(2, 2, 800), 3);
        x.level(0, 1);
        x.level(99, 2147);
        Due.is("price just in an int", x.term(1, 2, 800), 2147000000);
        x.level(99, 2148);
        Due.is("price at most", x.term(1, 2, 800), 2147483647);
        x.level(99, 10000);
        Due.is("price at most", x.term(1, 2, 800), 2147483647);
        Due.is("worth", x.term(1, 3, 800), 1000);
        Due.is("year of day 0", x.term(0, 4, 800), 0);
        Due.is("year of day 364", x.term(1, 4, 800), 0);
        Due.is("year of day 365", x.term(2, 4, 800), 1);
    }

    private static void held() {
        HomeRoll x = office(3000);
        x.paper(0, 0, 1, 364, 0, 0);
        x.paper(0, 1, 0, 729, 0, 0);
        x.paper(0, 0, 2, 1458, 0, 0);
        x.paper(0, 2, 3, 2188, 0, 0);
        for (int i = 0; i < 4; i++) {
            x.claim(i);
        }
        Due.is("364 days since day 0", x.term(0, 5, 3000), 0);
        Due.is("365 days", x.term(1, 5, 3000), 1);
        Due.is("729 days since it came back", x.term(2, 5, 3000), 1);
        Due.is("730 days", x.term(3, 5, 3000), 2);
        x.later(1);
        x.paper(0, 2, 5, 2000, 0, 0);
        x.paper(0, 5, 2, 2180, 0, 0);
        Due.is("by later papers, as known before", x.term(3, 5, 3000), 2);
        Due.is("by later papers, as known now", x.term(3, 5, 3001), 0);
        HomeRoll y = office(365);
        y.paper(0, 0, 1, 365, 0, 0);
        y.claim(0);
        Due.is("365 days since day 0", y.term(0, 5, 365), 1);
    }

    private static void handsAndLives() {
        HomeRoll x = office(500);
        x.paper(0, 0, 1, 100, 0, 0);
        x.claim(0);
        Due.is("hands", x.term(0, 6, 500), 0);
        Due.is("lives", x.term(0, 7, 500), 1);
        x.paper(0, 1, 2, 200, 0, 0);
        x.paper(0, 1, 3, 300, 0, 0);
        x.paper(1, 1, 3, 300, 0, 0);
        x.paper(0, 0, 4, 50, 0, 0);
        x.isFalse(4);
        Due.is("hands without loose ones", x.term(0, 6, 500), 1);
        Due.is("lives", x.term(0, 7, 500), 0);
        x.later(1);
        x.paper(0, 2, 1, 400, 0, 0);
        Due.is("hands", x.term(0, 6, 501), 2);
        Due.is("lives, it came back", x.term(0, 7, 501), 1);
        Due.is("as known before", x.term(0, 7, 500), 0);
        Due.is("as known before", x.term(0, 6, 500), 1);
        x.paper(0, 1, 5, 100, 0, 0);
        Due.is("behind it on its day", x.term(0, 6, 501), 1);
    }

    private static void deadOnADay() {
        HomeRoll x = office(500);
        x.paper(0, 0, 1, 100, 0, 0);
        x.claim(0);
        Due.is("not dead", x.term(0, 8, 500), 0);
        Due.is("not dead for ever", x.term(0, 8, Integer.MAX_VALUE), 0);
        x.dead(1, 0);
        Due.is("the other one's death", x.term(0, 8, 500), 0);
        x.dead(0, 600);
        Due.is("dead on 599", x.term(0, 8, 599), 0);
        Due.is("dead on 600", x.term(0, 8, 600), 1);
        Due.is("dead for ever", x.term(0, 8, Integer.MAX_VALUE), 1);
    }

    private static void noTerms() {
        HomeRoll x = office(500);
        x.paper(0, 0, 1, 100, 0, 0);
        x.claim(0);
        Due.is("term -1", x.term(0, -1, 500), -1);
        Due.is("term 9", x.term(0, 9, 500), -1);
        Due.is("claim -1", x.term(-1, 0, 500), -1);
        Due.is("claim 1", x.term(1, 0, 500), -1);
        Due.is("known on 499", x.term(0, 0, 499), -1);
        Due.is("ruling of claim -1", x.ruling(-1, 500), -1);
        Due.is("ruling of claim 1", x.ruling(1, 500), -1);
        Due.is("ruling on 499", x.ruling(0, 499), -1);
        Due.is("sum of claim -1", x.sum(-1, 500), -1);
        Due.is("sum of claim 1", x.sum(1, 500), -1);
        Due.is("sum on 499", x.sum(0, 499), -1);
        Due.is("sum on the least", x.sum(0, Integer.MIN_VALUE), -1);
    }

    private static void rulings() {
        HomeRoll x = office(500);
        x.paper(1, 1, 2, 100, 1, 0);
        x.claim(0);
        rules(x, "when forced do back;", 1, 0);
        rules(x, "when forced do other;", 2, 0);
        rules(x, "when forced do money 50;", 3, 166);
        rules(x, "when forced do money 0;", 3, 0);
        rules(x, "when forced do money 100;", 3, 333);
        rules(x, "when forced do none;when 1 do back;", 4, 0);
        rules(x, "when given do back;", 4, 0);
        rules(x, "when given do money 10;when forced do money 20;when 1 do money 30;", 3, 66);
        rules(x, "", 4, 0);
        HomeRoll y = Due.withPeople(2);
        y.house(0, 1000000);
        y.paper(0, 0, 1, 0, 0, 0);
        y.claim(0);
        rules(y, "when 1 do money 100;", 3, 1000000);
        rules(y, "when 1 do money 99;", 3, 990000);
    }

    private static void rules(HomeRoll x, String law, int ruling, int sum) {
        Due.law(x, law);
        Due.is("ruling by " + law, x.ruling(0, 500), ruling);
        Due.is("sum by " + law, x.sum(0, 500), sum);
    }

    private static void values() {
        HomeRoll x = office(800);
        x.paper(0, 0, 1, 800, 1, 40);
        x.claim(0);
        holds(x, "forced", true);
        holds(x, "given", false);
        holds(x, "price=40", true);
        holds(x, "worth=1000", true);
        holds(x, "year=2", true);
        holds(x, "held=2", true);
        holds(x, "hands=0", true);
        holds(x, "lives", true);
        holds(x, "dead", false);
        holds(x, "0", false);
        holds(x, "5", true);
        holds(x, "3-4", true);
        holds(x, "5-5", false);
        holds(x, "10-3-2=5", true);
        holds(x, "10-3+2=9", true);
        holds(x, "1+2<3", false);
        holds(x, "1+2<4", true);
        holds(x, "3>1+2", false);
        holds(x, "4>1+2", true);
        holds(x, "0-1<0", true);
        holds(x, "not 0", true);
        holds(x, "not 7", false);
        holds(x, "not not 7", true);
        holds(x, "not 0-1", false);
        holds(x, "not 1=2", true);
        holds(x, "not 1 or 1", true);
        holds(x, "not (1 or 1)", false);
        holds(x, "not 0 and 0", false);
        holds(x, "not (0 and 0)", true);
        holds(x, "1 or 1 and 0", true);
        holds(x, "(1 or 1) and 0", false);
        holds(x, "0 and 0 or 1", true);
        holds(x, "0 and (0 or 1)", false);
        holds(x, "2 and 4", true);
        holds(x, "4 or 0", true);
        holds(x, "0 or 0 or 0 or 3", true);
        holds(x, "1 and 1 and 1 and 0", false);
        x.level(2, 1);
        x.level(99, 10000);
        holds(x, "price=400000", true);
        HomeRoll y = office(0);
        y.level(0, 1);
        y.level(99, 10000);
        y.paper(0, 0, 1, 0, 0, 1000000);
        y.claim(0);
        holds(y, "price+1<0", true);
        holds(y, "price+price+2=0", true);
        holds(y, "0-price-2>0", true);
    }

    private static void holds(HomeRoll x, String e, boolean due) {
        Due.is("law with " + e, Due.law(x, "when " + e + " do back;"), 1);
        Due.is(e, x.ruling(0, 800), due ? 1 : 4);
    }
}
