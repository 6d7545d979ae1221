import java.util.function.Supplier;
import java.util.function.ToLongFunction;

/** A refused call does nothing: an object that has heard it answers ever after like one that has not. */
final class Refused {
    private static final int[] DAYS = {0, 100, 399, 400, 900, Integer.MAX_VALUE};
    private static final int[] YEARS = {0, 1, 99};

    private Refused() {
    }

    /** A call that is answered by NONE. */
    static void none(String name, Supplier<HomeRoll> making, ToLongFunction<HomeRoll> call) {
        answered(name, making, call, -1);
    }

    /** A call that is answered by false (0). */
    static void no(String name, Supplier<HomeRoll> making, ToLongFunction<HomeRoll> call) {
        answered(name, making, call, 0);
    }

    static void answered(String name, Supplier<HomeRoll> making, ToLongFunction<HomeRoll> call, long due) {
        HomeRoll heard = making.get();
        HomeRoll unheard = making.get();
        Due.is(name, call.applyAsLong(heard), due);
        compare("behind " + name + ": ", heard, unheard);
    }

    /** An office with something of all: today is 1001, one paper is false, one loose, the latest law() had a fault. */
    static HomeRoll office() {
        HomeRoll x = Due.withPeople(2);
        x.person(0, 1);
        x.person(0, 1);
        x.person(2, -1);
        x.person(-1, -1);
        x.person(-1, 5);
        x.dead(0, 10);
        x.dead(2, 500);
        x.house(0, 10000);
        x.house(1, 0);
        x.house(5, 1000000);
        x.level(1, 50);
        x.level(99, 200);
        x.later(1000);
        x.paper(0, 0, 5, 400, 1, 50);
        x.paper(0, 5, 6, 900, 0, 200);
        x.paper(0, 1, 2, 100, 0, 5);
        x.paper(1, 1, 3, 700, 2, 9);
        x.later(1);
        x.isFalse(1);
        x.claim(0);
        x.claim(3);
        Due.law(x, "when forced do money 40;when 1 do other;");
        Due.law(x, "when");
        Due.write(x, "when given do none; ");
        x.want(0, 1, 10);
        x.want(1, 0, 12);
        x.want(1, 2, 20);
        return x;
    }

    private static void compare(String name, HomeRoll x, HomeRoll due) {
        for (int what = 0; what < 8; what++) {
            Due.is(name + "about(" + what + ")", x.about(what), due.about(what));
        }
        Due.is(name + "fault(0)", x.fault(0), due.fault(0));
        Due.is(name + "fault(1)", x.fault(1), due.fault(1));
        comparePapers(name, x, due);
        compareClaims(name, x, due);
        compareShares(name, x, due);
        compareMoney(name, x, due);
        compareSwaps(name, x, due);
        compareNext(name, x, due);
    }

    private static void comparePapers(String name, HomeRoll x, HomeRoll due) {
        for (int house = 0; house < 3; house++) {
            for (int day : DAYS) {
                String call = name + "holder(" + house + ", " + day + ", ";
                Due.is(call + "1000)", x.holder(house, day, 1000), due.holder(house, day, 1000));
                Due.is(call + "1001)", x.holder(house, day, 1001), due.holder(house, day, 1001));
            }
        }
        for (int paper = 0; paper < 5; paper++) {
            String call = name + "loose(" + paper + ", ";
            Due.is(call + "1000)", x.loose(paper, 1000), due.loose(paper, 1000));
            Due.is(call + "1001)", x.loose(paper, 1001), due.loose(paper, 1001));
        }
    }

    private static void compareClaims(String name, HomeRoll x, HomeRoll due) {
        for (int claim = 0; claim < 3; claim++) {
            Due.is(name + "ruling(" + claim + ")", x.ruling(claim, 1001), due.ruling(claim, 1001));
            Due.is(name + "sum(" + claim + ")", x.sum(claim, 1001), due.sum(claim, 1001));
            for (int term = 0; term < 9; term++) {
                String call = name + "term(" + claim + ", " + term + ")";
                Due.is(call, x.term(claim, term, 1001), due.term(claim, term, 1001));
            }
        }
    }

    private static void compareShares(String name, HomeRoll x, HomeRoll due) {
        for (int of = 0; of < 7; of++) {
            for (int person = 0; person < 7; person++) {
                String call = name + "share(" + of + ", " + person + ", 36499, 1)";
                Due.is(call, x.share(of, person, 36499, 1), due.share(of, person, 36499, 1));
            }
            Due.is(name + "share on 0", x.share(of, of, 0, 0), due.share(of, of, 0, 0));
            Due.is(name + "share on 36499", x.share(of, of, 36499, 0), due.share(of, of, 36499, 0));
        }
    }

    private static void compareMoney(String name, HomeRoll x, HomeRoll due) {
        for (int from : YEARS) {
            for (int to : YEARS) {
                String call = name + "money(1000, " + from + ", " + to + ")";
                Due.is(call, x.money(1000, from, to), due.money(1000, from, to));
            }
        }
    }

    private static void compareSwaps(String name, HomeRoll x, HomeRoll due) {
        Due.is(name + "joy()", x.joy(), due.joy());
        for (int house = 0; house < 8; house++) {
            Due.is(name + "swap(" + house + ")", x.swap(house), due.swap(house));
        }
    }

    /** The tape's bytes can be seen only by the law that they make. */
    private static void compareNext(String name, HomeRoll x, HomeRoll due) {
        Due.is(name + "law()", x.law(), due.law());
        Due.is(name + "fault(1) of it", x.fault(1), due.fault(1));
        Due.is(name + "ruling(1) by it", x.ruling(1, 1001), due.ruling(1, 1001));
        Due.is(name + "person", x.person(-1, -1), due.person(-1, -1));
        Due.is(name + "house", x.house(0, 1), due.house(0, 1));
        Due.is(name + "paper", x.paper(2, 5, 0, 1, 1, 1), due.paper(2, 5, 0, 1, 1, 1));
        Due.is(name + "claim", x.claim(2), due.claim(2));
        Due.is(name + "want", x.want(2, 0, 7), due.want(2, 0, 7));
        Due.is(name + "joy() with it", x.joy(), due.joy());
        Due.is(name + "later", x.later(1), due.later(1));
    }
}
