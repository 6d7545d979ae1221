/** Promises 1, 2, 3 and 20: people, their deaths and their heirs' shares. */
public final class PeopleTest {
    public static void main(String[] args) {
        people();
        deaths();
        sharesOfTheLiving();
        sharesOverTheDead();
        emptyLines();
        childOfTwo();
        lowestTerms();
        longLine();
        wrongShares();
        Due.end("PeopleTest");
    }

    private static void people() {
        HomeRoll x = new HomeRoll();
        Due.is("person(0, -1) without people", x.person(0, -1), -1);
        Due.is("person(-1, 0) without people", x.person(-1, 0), -1);
        Due.is("first person", x.person(-1, -1), 0);
        Due.is("mother only", x.person(0, -1), 1);
        Due.is("father only", x.person(-1, 0), 2);
        Due.is("both", x.person(1, 2), 3);
        Due.is("one who is mother and father", x.person(3, 3), 4);
        Due.is("itself as mother", x.person(5, -1), -1);
        Due.is("itself as father", x.person(-1, 5), -1);
        Due.is("mother -2", x.person(-2, 0), -1);
        Due.is("father least", x.person(0, Integer.MIN_VALUE), -1);
        Due.is("mother most", x.person(Integer.MAX_VALUE, 0), -1);
        Due.is("about(0)", x.about(0), 5);
        for (int i = 5; i < 24; i++) {
            Due.is("person " + i, x.person(i - 1, 0), i);
        }
        Due.is("25th person", x.person(-1, -1), -1);
        Due.is("about(0)", x.about(0), 24);
    }

    private static void deaths() {
        HomeRoll x = Due.withPeople(3);
        Due.is("dead(3, 0)", x.dead(3, 0), false);
        Due.is("dead(-1, 0)", x.dead(-1, 0), false);
        Due.is("dead(0, -1)", x.dead(0, -1), false);
        Due.is("dead(0, 36500)", x.dead(0, 36500), false);
        Due.is("dead(0, 0)", x.dead(0, 0), true);
        Due.is("dead(0, 0) again", x.dead(0, 0), false);
        Due.is("dead(1, 36499), after today", x.dead(1, 36499), true);
        Due.is("dead(1, 5) again", x.dead(1, 5), false);
        fraction(x, 0, 0, 0, 0, 1);
        fraction(x, 1, 1, 36498, 1, 1);
        fraction(x, 1, 1, 36499, 0, 1);
        fraction(x, 2, 2, 36499, 1, 1);
    }

    private static void sharesOfTheLiving() {
        HomeRoll x = Due.withPeople(2);
        x.person(0, 1);
        fraction(x, 0, 0, 0, 1, 1);
        fraction(x, 0, 2, 0, 0, 1);
        fraction(x, 2, 0, 0, 0, 1);
    }

    private static void sharesOverTheDead() {
        HomeRoll x = Due.withPeople(1);
        x.person(0, -1);
        x.person(-1, 0);
        x.person(0, -1);
        x.person(1, -1);
        x.person(1, -1);
        x.dead(0, 10);
        x.dead(1, 20);
        fraction(x, 0, 1, 9, 0, 1);
        fraction(x, 0, 1, 10, 1, 3);
        fraction(x, 0, 1, 19, 1, 3);
        fraction(x, 0, 1, 20, 0, 1);
        fraction(x, 0, 4, 20, 1, 6);
        fraction(x, 0, 5, 20, 1, 6);
        fraction(x, 0, 3, 20, 1, 3);
        fraction(x, 1, 4, 20, 1, 2);
        fraction(x, 1, 2, 20, 0, 1);
        x.dead(4, 0);
        fraction(x, 0, 5, 20, 1, 3);
        fraction(x, 0, 4, 20, 0, 1);
    }

    /** A dead child without heirs takes no part, and neither does one whose heirs are all dead. */
    private static void emptyLines() {
        HomeRoll x = Due.withPeople(1);
        x.person(0, -1);
        x.person(0, -1);
        x.person(1, -1);
        x.person(3, -1);
        x.dead(0, 1);
        x.dead(1, 2);
        x.dead(3, 3);
        fraction(x, 0, 2, 3, 1, 2);
        fraction(x, 0, 4, 3, 1, 2);
        x.dead(4, 4);
        fraction(x, 0, 2, 4, 1, 1);
        fraction(x, 0, 4, 4, 0, 1);
        fraction(x, 1, 4, 4, 0, 1);
        x.dead(2, 5);
        for (int person = 0; person < 5; person++) {
            fraction(x, 0, person, 5, 0, 1);
        }
    }

    private static void childOfTwo() {
        HomeRoll x = Due.withPeople(1);
        x.person(0, -1);
        x.person(-1, 0);
        x.person(0, -1);
        x.person(1, 2);
        x.person(-1, 2);
        x.dead(0, 0);
        x.dead(1, 0);
        x.dead(2, 0);
        fraction(x, 0, 4, 0, 1, 2);
        fraction(x, 0, 5, 0, 1, 6);
        fraction(x, 0, 3, 0, 1, 3);
        HomeRoll y = Due.withPeople(1);
        y.person(0, 0);
        y.person(0, -1);
        y.dead(0, 0);
        fraction(y, 0, 1, 0, 1, 2);
        fraction(y, 0, 2, 0, 1, 2);
    }

    private static void lowestTerms() {
        HomeRoll x = Due.withPeople(1);
        for (int i = 0; i < 4; i++) {
            x.person(0, -1);
        }
        x.person(1, 2);
        x.dead(0, 0);
        x.dead(1, 0);
        x.dead(2, 0);
        fraction(x, 0, 5, 0, 1, 2);
        x.person(3, 1);
        x.dead(3, 0);
        fraction(x, 0, 5, 0, 3, 8);
        fraction(x, 0, 6, 0, 3, 8);
        fraction(x, 0, 4, 0, 1, 4);
    }

    /** Three children of each dead one, and of each two the eldest is the next to die: the denominators grow. */
    private static void longLine() {
        HomeRoll x = Due.withPeople(1);
        long whole = 1;
        int parent = 0;
        for (int i = 0; i < 7; i++) {
            int first = x.person(parent, -1);
            x.person(parent, -1);
            x.person(-1, parent);
            x.dead(parent, i);
            whole *= 3;
            parent = first;
        }
        fraction(x, 0, parent, 36499, 1, whole);
        fraction(x, 0, parent + 1, 36499, 1, whole);
        fraction(x, 0, 2, 36499, 1, 3);
    }

    private static void wrongShares() {
        HomeRoll x = Due.withPeople(2);
        Due.is("share(-1, 0, 0, 0)", x.share(-1, 0, 0, 0), -1);
        Due.is("share(2, 0, 0, 0)", x.share(2, 0, 0, 0), -1);
        Due.is("share(0, -1, 0, 0)", x.share(0, -1, 0, 0), -1);
        Due.is("share(0, 2, 0, 0)", x.share(0, 2, 0, 0), -1);
        Due.is("share(0, 0, -1, 0)", x.share(0, 0, -1, 0), -1);
        Due.is("share(0, 0, 36500, 1)", x.share(0, 0, 36500, 1), -1);
        Due.is("share(0, 0, 0, -1)", x.share(0, 0, 0, -1), -1);
        Due.is("share(0, 0, 0, 2)", x.share(0, 0, 0, 2), -1);
        Due.is("share(0, 0, 36499, 1)", x.share(0, 0, 36499, 1), 1);
    }

    private static void fraction(HomeRoll x, int of, int person, int day, long numerator, long denominator) {
        String call = "share(" + of + ", " + person + ", " + day + ", ";
        Due.is(call + "0)", x.share(of, person, day, 0), numerator);
        Due.is(call + "1)", x.share(of, person, day, 1), denominator);
    }
}
