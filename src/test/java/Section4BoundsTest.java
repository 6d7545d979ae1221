/** Section 4 of the document's terms, a test for each sentence that names a bound: wants and swaps. */
public final class Section4BoundsTest {
    private static final int LEAST = Integer.MIN_VALUE;
    private static final int MOST = Integer.MAX_VALUE;

    public static void main(String[] args) {
        fortyWants();
        joys();
        lastOneTold();
        inThisOrder();
        noMore();
        noOneTwice();
        itselfOrWanted();
        greatestSum();
        firstOfLikeOnes();
        firstOfManyLikeOnes();
        eightHouses();
        Due.end("Section4BoundsTest");
    }

    private static HomeRoll office(int houses) {
        HomeRoll x = Due.withPeople(1);
        for (int i = 0; i < houses; i++) {
            x.house(0, i);
        }
        return x;
    }

    private static void swaps(HomeRoll x, int joy, int... given) {
        Due.is("joy()", x.joy(), joy);
        for (int house = 0; house < given.length; house++) {
            Due.is("swap(" + house + ")", x.swap(house), given[house]);
        }
    }

    private static void fortyWants() {
        Due.sentence("a WANT (40 at most)");
        HomeRoll x = office(8);
        for (int i = 0; i < 40; i++) {
            Due.is("want", x.want(i / 7, (i / 7 + 1 + i % 7) % 8, 1), i + 1);
        }
        Due.is("a 41st one", x.want(7, 0, 1000), -1);
        Due.is("a 41st one of joy 0", x.want(0, 1, 0), -1);
        Due.is("a 41st one told before", x.want(0, 1, 5), -1);
        Due.is("about(6)", x.about(6), 40);
        Due.is("joy", x.joy(), 6);
        HomeRoll y = office(2);
        for (int i = 1; i <= 40; i++) {
            Due.is("the same one again", y.want(0, 1, 0), i);
        }
        Due.is("a 41st one", y.want(0, 1, 0), -1);
    }

    private static void joys() {
        Due.sentence("by a JOY (1 .. 1000)");
        HomeRoll x = office(2);
        x.want(1, 0, 1);
        for (int joy : new int[] {LEAST, -1, 1001, MOST}) {
            Due.is("want(0, 1, " + joy + ")", x.want(0, 1, joy), -1);
            swaps(x, 0, 0, 1);
        }
        Due.is("joy 1", x.want(0, 1, 1), 2);
        swaps(x, 2, 1, 0);
        Due.is("joy 1000", x.want(0, 1, 1000), 3);
        swaps(x, 1001, 1, 0);
        Due.is("joy 1001", x.want(0, 1, 1001), -1);
        swaps(x, 1001, 1, 0);
    }

    private static void lastOneTold() {
        Due.sentence("(the last one told of both HOUSES, in this order, counts");
        HomeRoll x = office(3);
        x.want(0, 1, 500);
        x.want(1, 0, 5);
        swaps(x, 505, 1, 0, 2);
        x.want(0, 1, 7);
        swaps(x, 12, 1, 0, 2);
        x.want(0, 1, 8);
        swaps(x, 13, 1, 0, 2);
        x.want(0, 2, 1);
        swaps(x, 13, 1, 0, 2);
    }

    private static void inThisOrder() {
        Due.sentence("of both HOUSES, in this order");
        HomeRoll x = office(2);
        x.want(0, 1, 500);
        swaps(x, 0, 0, 1);
        x.want(0, 1, 600);
        swaps(x, 0, 0, 1);
        x.want(1, 0, 3);
        swaps(x, 603, 1, 0);
        x.want(1, 0, 0);
        swaps(x, 0, 0, 1);
        x.want(1, 0, 2);
        swaps(x, 602, 1, 0);
    }

    private static void noMore() {
        Due.sentence("0: no more)");
        HomeRoll x = office(3);
        Due.is("one that never was", x.want(0, 1, 0), 1);
        x.want(1, 2, 5);
        x.want(2, 0, 5);
        swaps(x, 0, 0, 1, 2);
        x.want(0, 1, 1);
        swaps(x, 11, 1, 2, 0);
        Due.is("no more", x.want(0, 1, 0), 5);
        swaps(x, 0, 0, 1, 2);
        Due.is("it was told", x.about(6), 5);
        x.want(0, 1, 9);
        swaps(x, 19, 1, 2, 0);
    }

    private static void noOneTwice() {
        Due.sentence("A SWAP gives for each HOUSE one, no one twice");
        HomeRoll x = office(3);
        x.want(0, 1, 900);
        x.want(2, 1, 1000);
        swaps(x, 0, 0, 1, 2);
        x.want(1, 0, 1);
        swaps(x, 901, 1, 0, 2);
        x.want(1, 2, 1);
        swaps(x, 1001, 0, 2, 1);
        x.want(1, 0, 101);
        swaps(x, 1001, 0, 2, 1);
        x.want(1, 0, 102);
        swaps(x, 1002, 1, 0, 2);
    }

    private static void itselfOrWanted() {
        Due.sentence("itself, or one for which there is a WANT");
        Due.is("no houses", new HomeRoll().joy(), 0);
        for (int houses = 1; houses <= 8; houses++) {
            HomeRoll x = office(houses);
            Due.is("joy() without wants", x.joy(), 0);
            for (int house = 0; house < 8; house++) {
                Due.is("swap(" + house + ") of " + houses, x.swap(house), house < houses ? house : -1);
            }
        }
        HomeRoll y = office(4);
        y.want(0, 1, 5);
        y.want(1, 0, 5);
        y.want(2, 3, 5);
        swaps(y, 10, 1, 0, 2, 3);
    }

    private static void greatestSum() {
        Due.sentence("BEST has the greatest sum of JOYS");
        HomeRoll x = office(4);
        x.want(0, 1, 10);
        x.want(1, 0, 10);
        x.want(1, 2, 6);
        x.want(2, 3, 6);
        x.want(3, 0, 6);
        swaps(x, 28, 1, 2, 3, 0);
        x.want(3, 2, 2);
        swaps(x, 28, 1, 0, 3, 2);
        x.want(3, 2, 1);
        swaps(x, 28, 1, 2, 3, 0);
        x.want(3, 2, 3);
        swaps(x, 29, 1, 0, 3, 2);
    }

    private static void firstOfLikeOnes() {
        Due.sentence("of like ones the first by what is given for HOUSE 0, then 1, .. (the least numbers)");
        HomeRoll x = office(3);
        x.want(0, 2, 5);
        x.want(2, 0, 5);
        x.want(0, 1, 5);
        x.want(1, 0, 5);
        swaps(x, 10, 1, 0, 2);
        x.want(1, 2, 5);
        x.want(2, 1, 5);
        swaps(x, 15, 1, 2, 0);
        HomeRoll y = office(3);
        y.want(1, 2, 5);
        y.want(2, 1, 5);
        y.want(0, 1, 5);
        y.want(1, 0, 5);
        swaps(y, 10, 0, 2, 1);
        HomeRoll z = office(4);
        z.want(0, 3, 4);
        z.want(3, 0, 4);
        z.want(0, 2, 4);
        z.want(2, 0, 4);
        z.want(1, 3, 4);
        z.want(3, 1, 4);
        z.want(1, 2, 4);
        z.want(2, 1, 4);
        swaps(z, 16, 2, 3, 0, 1);
    }

    /** Each of six wants all others of them alike: the first of 265 like ones. */
    private static void firstOfManyLikeOnes() {
        Due.sentence("of like ones the first by what is given for HOUSE 0, then 1, .. (the least numbers)");
        HomeRoll x = office(8);
        for (int house = 0; house < 6; house++) {
            for (int other = 0; other < 6; other++) {
                x.want(house, other, 1000);
            }
        }
        swaps(x, 6000, 1, 0, 3, 2, 5, 4, 6, 7);
        x.want(4, 5, 999);
        swaps(x, 6000, 1, 0, 3, 5, 2, 4, 6, 7);
    }

    private static void eightHouses() {
        Due.sentence("BEST has the greatest sum of JOYS");
        HomeRoll x = office(8);
        for (int i = 0; i < 8; i++) {
            x.want(i, (i + 7) % 8, 1000);
        }
        swaps(x, 8000, 7, 0, 1, 2, 3, 4, 5, 6);
        for (int i = 0; i < 8; i++) {
            x.want(i, i ^ 1, 1000);
        }
        swaps(x, 8000, 1, 0, 3, 2, 5, 4, 7, 6);
        x.want(6, 7, 999);
        swaps(x, 8000, 7, 0, 1, 2, 3, 4, 5, 6);
        x.want(0, 7, 0);
        swaps(x, 7999, 1, 0, 3, 2, 5, 4, 7, 6);
    }
}
