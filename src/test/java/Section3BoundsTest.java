/** Section 3 of the document's terms, a test for each sentence that names a bound: heirs' shares. */
public final class Section3BoundsTest {
    public static void main(String[] args) {
        allToTheLiving();
        likeParts();
        deadWithoutHeirs();
        handedOn();
        aLineOf24();
        toNone();
        childOfTwo();
        childOfOneTwice();
        lowestTerms();
        largestDenominator();
        Due.end("Section3BoundsTest");
    }

    private static void fraction(HomeRoll x, int of, int person, int day, long numerator, long denominator) {
        String call = "share(" + of + ", " + person + ", " + day + ", ";
        Due.is(call + "0)", x.share(of, person, day, 0), numerator);
        Due.is(call + "1)", x.share(of, person, day, 1), denominator);
    }

    private static void allToTheLiving() {
        Due.sentence("all to it, if it is not DEAD on d");
        HomeRoll x = Due.withPeople(1);
        x.person(0, -1);
        x.dead(0, 10);
        fraction(x, 0, 0, 0, 1, 1);
        fraction(x, 0, 0, 9, 1, 1);
        fraction(x, 0, 1, 9, 0, 1);
        fraction(x, 0, 0, 10, 0, 1);
        fraction(x, 0, 1, 10, 1, 1);
        fraction(x, 1, 1, 10, 1, 1);
        fraction(x, 1, 0, 10, 0, 1);
        fraction(x, 1, 1, 36499, 1, 1);
    }

    /** Of one child up to the 23 that can be. */
    private static void likeParts() {
        Due.sentence("else in like parts to its children who are not DEAD on d");
        HomeRoll x = Due.withPeople(1);
        x.dead(0, 0);
        for (int children = 1; children <= 23; children++) {
            x.person(children % 2 == 0 ? 0 : -1, children % 2 == 0 ? -1 : 0);
            fraction(x, 0, 1, 0, 1, children);
            fraction(x, 0, children, 0, 1, children);
        }
        for (int child = 1; child <= 22; child++) {
            x.dead(child, child);
            fraction(x, 0, 23, child - 1, 1, 24 - child);
            fraction(x, 0, 23, child, 1, 23 - child);
            fraction(x, 0, child, child, 0, 1);
        }
    }

    private static void deadWithoutHeirs() {
        Due.sentence("or have a SHARE to hand on by their own");
        HomeRoll x = Due.withPeople(1);
        x.person(0, -1);
        x.person(0, -1);
        x.person(0, -1);
        x.person(1, -1);
        x.dead(0, 0);
        x.dead(1, 5);
        x.dead(2, 5);
        fraction(x, 0, 3, 4, 1, 3);
        fraction(x, 0, 3, 5, 1, 2);
        fraction(x, 0, 4, 5, 1, 2);
        fraction(x, 0, 2, 5, 0, 1);
        x.dead(4, 6);
        fraction(x, 0, 3, 5, 1, 2);
        fraction(x, 0, 3, 6, 1, 1);
        fraction(x, 0, 4, 6, 0, 1);
    }

    private static void handedOn() {
        Due.sentence("a child that is DEAD hands its part on likewise");
        HomeRoll x = Due.withPeople(1);
        x.person(0, -1);
        x.person(0, -1);
        x.person(1, -1);
        x.person(1, -1);
        x.person(3, -1);
        x.person(3, -1);
        x.person(3, -1);
        x.dead(0, 1);
        x.dead(1, 2);
        x.dead(3, 3);
        fraction(x, 0, 1, 1, 1, 2);
        fraction(x, 0, 3, 1, 0, 1);
        fraction(x, 0, 1, 2, 0, 1);
        fraction(x, 0, 3, 2, 1, 4);
        fraction(x, 0, 4, 2, 1, 4);
        fraction(x, 0, 3, 3, 0, 1);
        fraction(x, 0, 5, 3, 1, 12);
        fraction(x, 0, 7, 3, 1, 12);
        fraction(x, 0, 4, 3, 1, 4);
        fraction(x, 0, 2, 3, 1, 2);
    }

    private static void aLineOf24() {
        Due.sentence("a child that is DEAD hands its part on likewise");
        HomeRoll x = Due.withPeople(1);
        for (int i = 1; i < 24; i++) {
            x.person(i - 1, -1);
            x.dead(i - 1, i);
        }
        for (int i = 0; i < 24; i++) {
            fraction(x, 0, i, i, 1, 1);
            fraction(x, 0, i, 36499, i == 23 ? 1 : 0, 1);
        }
        x.dead(23, 36499);
        fraction(x, 0, 23, 36498, 1, 1);
        fraction(x, 0, 23, 36499, 0, 1);
    }

    private static void toNone() {
        Due.sentence("a right that nobody has goes to none");
        HomeRoll x = Due.withPeople(3);
        x.person(0, 1);
        x.person(3, -1);
        x.dead(2, 0);
        fraction(x, 2, 2, 0, 0, 1);
        fraction(x, 2, 0, 0, 0, 1);
        x.dead(0, 0);
        x.dead(3, 0);
        x.dead(4, 0);
        for (int person = 0; person < 5; person++) {
            fraction(x, 0, person, 0, 0, 1);
        }
        fraction(x, 1, 1, 0, 1, 1);
    }

    private static void childOfTwo() {
        Due.sentence("(A child of two who both have rights has both.)");
        HomeRoll x = Due.withPeople(1);
        x.person(0, -1);
        x.person(0, -1);
        x.person(0, -1);
        x.person(1, 2);
        x.person(2, -1);
        x.dead(0, 0);
        x.dead(1, 1);
        x.dead(2, 2);
        fraction(x, 0, 4, 0, 0, 1);
        fraction(x, 0, 4, 1, 1, 3);
        fraction(x, 0, 4, 2, 1, 2);
        fraction(x, 0, 5, 2, 1, 6);
        fraction(x, 0, 3, 2, 1, 3);
        x.person(4, -1);
        x.dead(4, 3);
        fraction(x, 0, 6, 3, 1, 2);
        fraction(x, 1, 6, 3, 1, 1);
        fraction(x, 2, 6, 3, 1, 2);
    }

    /** The document's words do not rule out that one person is mother and father: it is one child then. */
    private static void childOfOneTwice() {
        Due.sentence("in like parts to its children");
        HomeRoll x = Due.withPeople(1);
        x.person(0, 0);
        x.person(0, -1);
        x.dead(0, 0);
        fraction(x, 0, 1, 0, 1, 2);
        fraction(x, 0, 2, 0, 1, 2);
    }

    private static void lowestTerms() {
        Due.sentence("SHARES are fractions in lowest terms");
        HomeRoll x = Due.withPeople(1);
        for (int i = 0; i < 6; i++) {
            x.person(0, -1);
        }
        x.person(1, 2);
        x.person(3, 4);
        x.person(4, 3);
        x.person(5, 6);
        x.person(6, 5);
        x.person(5, 6);
        x.dead(0, 0);
        fraction(x, 0, 6, 0, 1, 6);
        for (int i = 1; i <= 6; i++) {
            x.dead(i, i);
        }
        fraction(x, 0, 7, 6, 1, 3);
        fraction(x, 0, 8, 6, 1, 6);
        fraction(x, 0, 9, 6, 1, 6);
        fraction(x, 0, 10, 6, 1, 9);
        fraction(x, 0, 12, 6, 1, 9);
        x.person(1, 3);
        fraction(x, 0, 7, 6, 1, 4);
        fraction(x, 0, 13, 6, 5, 36);
        fraction(x, 0, 8, 6, 5, 36);
    }

    /** Two heirs of each that is dead, each pair again parents of two: 2 to the 11th is the longest such line. */
    private static void largestDenominator() {
        Due.sentence("SHARES are fractions in lowest terms");
        HomeRoll x = Due.withPeople(1);
        int parent = 0;
        long whole = 1;
        for (int i = 0; i < 11; i++) {
            int heir = x.person(parent, -1);
            x.person(-1, parent);
            x.dead(parent, i);
            whole *= 2;
            fraction(x, 0, heir, i, 1, whole);
            fraction(x, 0, heir + 1, i, 1, whole);
            fraction(x, 0, 2, i, 1, 2);
            parent = heir;
        }
        HomeRoll y = Due.withPeople(1);
        y.person(0, -1);
        y.person(0, -1);
        for (int i = 3; i < 23; i += 2) {
            y.person(i - 2, i - 1);
            y.person(i - 1, i - 2);
        }
        for (int i = 0; i < 21; i++) {
            y.dead(i, i);
        }
        fraction(y, 0, 21, 36499, 1, 2);
        fraction(y, 0, 22, 36499, 1, 2);
        fraction(y, 1, 22, 36499, 1, 2);
    }
}
