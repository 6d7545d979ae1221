/** Promises 21 to 23: wants and the best swap. */
public final class SwapsTest {
    public static void main(String[] args) {
        wants();
        mostWants();
        nothingWanted();
        noOneTwice();
        ringAgainstPairs();
        firstOfLikeOnes();
        wantsTakenBack();
        eightHouses();
        Due.end("SwapsTest");
    }

    private static HomeRoll office(int houses) {
        HomeRoll x = Due.withPeople(1);
        for (int i = 0; i < houses; i++) {
            x.house(0, i);
        }
        return x;
    }

    private static void wants() {
        HomeRoll x = office(2);
        Due.is("the same house", x.want(0, 0, 5), -1);
        Due.is("house -1", x.want(-1, 0, 5), -1);
        Due.is("house 2", x.want(2, 0, 5), -1);
        Due.is("other -1", x.want(0, -1, 5), -1);
        Due.is("other 2", x.want(0, 2, 5), -1);
        Due.is("joy -1", x.want(0, 1, -1), -1);
        Due.is("joy 1001", x.want(0, 1, 1001), -1);
        Due.is("about(6)", x.about(6), 0);
        Due.is("joy 1", x.want(0, 1, 1), 1);
        Due.is("joy 1000", x.want(1, 0, 1000), 2);
        Due.is("joy 0", x.want(1, 0, 0), 3);
        Due.is("about(6)", x.about(6), 3);
    }

    private static void mostWants() {
        HomeRoll x = office(3);
        for (int i = 1; i <= 39; i++) {
            Due.is("want", x.want(0, 1, i), i);
        }
        Due.is("40th want", x.want(1, 0, 7), 40);
        Due.is("41st want", x.want(1, 0, 9), -1);
        Due.is("about(6)", x.about(6), 40);
        Due.is("joy", x.joy(), 46);
    }

    private static void nothingWanted() {
        HomeRoll x = new HomeRoll();
        Due.is("joy without houses", x.joy(), 0);
        Due.is("swap(0) without houses", x.swap(0), -1);
        x = office(2);
        swap(x, 0, 0, 1);
        Due.is("swap(2)", x.swap(2), -1);
        Due.is("swap(-1)", x.swap(-1), -1);
        Due.is("swap(8)", x.swap(8), -1);
        Due.is("swap(most)", x.swap(Integer.MAX_VALUE), -1);
        x.house(0, 1);
        swap(x, 0, 0, 1, 2);
    }

    private static void noOneTwice() {
        HomeRoll x = office(3);
        x.want(0, 1, 10);
        swap(x, 0, 0, 1, 2);
        x.want(2, 1, 20);
        swap(x, 0, 0, 1, 2);
        x.want(1, 0, 1);
        swap(x, 11, 1, 0, 2);
        x.want(1, 2, 1);
        swap(x, 21, 0, 2, 1);
    }

    private static void ringAgainstPairs() {
        HomeRoll x = office(4);
        x.want(0, 1, 5);
        x.want(1, 0, 5);
        x.want(2, 3, 5);
        x.want(3, 2, 5);
        swap(x, 20, 1, 0, 3, 2);
        x.want(1, 2, 6);
        x.want(3, 0, 5);
        swap(x, 21, 1, 2, 3, 0);
        x.want(1, 2, 5);
        swap(x, 20, 1, 0, 3, 2);
        x.want(1, 2, 4);
        swap(x, 20, 1, 0, 3, 2);
    }

    private static void firstOfLikeOnes() {
        HomeRoll x = office(3);
        x.want(0, 2, 5);
        x.want(2, 0, 5);
        swap(x, 10, 2, 1, 0);
        x.want(0, 1, 5);
        x.want(1, 0, 5);
        swap(x, 10, 1, 0, 2);
        x.want(1, 2, 10);
        x.want(2, 1, 1);
        swap(x, 20, 1, 2, 0);
        HomeRoll y = office(3);
        y.want(1, 2, 500);
        y.want(2, 1, 500);
        y.want(0, 1, 999);
        y.want(1, 0, 1);
        swap(y, 1000, 0, 2, 1);
    }

    private static void wantsTakenBack() {
        HomeRoll x = office(2);
        x.want(0, 1, 9);
        x.want(1, 0, 9);
        swap(x, 18, 1, 0);
        x.want(0, 1, 4);
        swap(x, 13, 1, 0);
        x.want(0, 1, 0);
        swap(x, 0, 0, 1);
        x.want(0, 1, 2);
        swap(x, 11, 1, 0);
    }

    private static void eightHouses() {
        HomeRoll x = office(8);
        for (int i = 0; i < 8; i++) {
            x.want(i, (i + 1) % 8, 1000);
        }
        swap(x, 8000, 1, 2, 3, 4, 5, 6, 7, 0);
        x.want(7, 0, 0);
        swap(x, 0, 0, 1, 2, 3, 4, 5, 6, 7);
        x.want(7, 5, 1);
        swap(x, 2001, 0, 1, 2, 3, 4, 6, 7, 5);
    }

    private static void swap(HomeRoll x, int joy, int... given) {
        Due.is("joy()", x.joy(), joy);
        for (int house = 0; house < given.length; house++) {
            Due.is("swap(" + house + ")", x.swap(house), given[house]);
        }
    }
}
