/** The promises 1 to 24, a test for each sentence that names a bound or a call that is refused. */
public final class PromiseBoundsTest {
    private static final int LEAST = Integer.MIN_VALUE;
    private static final int MOST = Integer.MAX_VALUE;
    private static final int[] NOBODY = {LEAST, -1, 7, 24, MOST};
    private static final int[] NO_HOUSES = {LEAST, -1, 3, 8, MOST};
    private static final int[] NO_PAPERS = {LEAST, -1, 4, 60, MOST};
    private static final int[] NO_CLAIMS = {LEAST, -1, 2, 30, MOST};
    private static final int[] NO_MONEY = {LEAST, -1, 1000001, MOST};
    private static final int[] NO_DAYS = {LEAST, -1, 36500, MOST};
    private static final int[] NO_YEARS = {LEAST, -1, 100, MOST};

    public static void main(String[] args) {
        aNewObject();
        fiveHundredAndTwelveCalls();
        person();
        dead();
        house();
        level();
        money();
        paper();
        paperOfAlikePersons();
        sixtyOnePapers();
        isFalse();
        later();
        laterThanTheLastDay();
        holder();
        loose();
        feed();
        feedBeyondTheTape();
        end();
        law();
        lawAfterLaw();
        lawWithAFault();
        fault();
        claim();
        ruling();
        sum();
        term();
        share();
        want();
        joy();
        swap();
        about();
        askingChangesNothing();
        Due.end("PromiseBoundsTest");
    }

    private static HomeRoll fullOfPeople() {
        HomeRoll x = Refused.office();
        for (int i = 7; i < 24; i++) {
            x.person(-1, -1);
        }
        return x;
    }

    private static HomeRoll fullOfHouses() {
        HomeRoll x = Refused.office();
        for (int i = 3; i < 8; i++) {
            x.house(0, i);
        }
        return x;
    }

    private static HomeRoll fullOfPapers() {
        HomeRoll x = Refused.office();
        for (int i = 4; i < 60; i++) {
            x.paper(2, 0, 1, 5, 0, 0);
        }
        return x;
    }

    private static HomeRoll fullOfClaims() {
        HomeRoll x = fullOfPapers();
        for (int i = 2; i < 30; i++) {
            x.claim(i + 2);
        }
        return x;
    }

    private static HomeRoll fullOfWants() {
        HomeRoll x = Refused.office();
        for (int i = 3; i < 40; i++) {
            x.want(0, 2, 3);
        }
        return x;
    }

    private static HomeRoll fullOfBytes() {
        HomeRoll x = Refused.office();
        for (int i = 1; i < 30; i++) {
            x.feed(0x20202020, 0x20202020, 0x20202020, 0x20202020, 0x20202020);
        }
        return x;
    }

    private static HomeRoll onTheLastDay() {
        HomeRoll x = Refused.office();
        Due.goTo(x, 36499);
        return x;
    }

    private static void aNewObject() {
        Due.sentence("No HOUSES, no LAW; TODAY 0.");
        HomeRoll x = new HomeRoll();
        for (int what = 0; what < 8; what++) {
            Due.is("about(" + what + ")", x.about(what), 0);
        }
        Due.is("holder", x.holder(0, 0, 0), -1);
        Due.is("swap", x.swap(0), -1);
        Due.is("joy", x.joy(), 0);
        Due.is("paper", x.paper(0, 0, 0, 0, 0, 0), -1);
        Due.is("loose", x.loose(0, 0), -1);
        Due.is("claim", x.claim(0), -1);
        Due.is("ruling", x.ruling(0, 0), -1);
        Due.is("sum", x.sum(0, 0), -1);
        Due.is("term", x.term(0, 0, 0), -1);
        Due.is("share", x.share(0, 0, 0, 0), -1);
        Due.is("want", x.want(0, 1, 1), -1);
        Due.is("dead", x.dead(0, 0), false);
        Due.is("isFalse", x.isFalse(0), false);
        Due.is("fault(0)", x.fault(0), 0);
        Due.is("fault(1)", x.fault(1), -1);
        Due.is("law", x.law(), 0);
        HomeRoll used = Refused.office();
        HomeRoll another = new HomeRoll();
        for (int what = 0; what < 8; what++) {
            Due.is("about(" + what + ") beside a used one", another.about(what), 0);
        }
        Due.is("the used one", used.about(0), 7);
    }

    private static void fiveHundredAndTwelveCalls() {
        Due.sentence("An object is used for at most 512 calls after it has been made");
        HomeRoll x = new HomeRoll();
        for (int i = 0; i < 170; i++) {
            Due.is("law of nothing", x.law(), 0);
            Due.is("feed", x.feed(i, i, i, i, i), 20);
            Due.is("law of call " + i, x.law(), -1);
        }
        Due.is("the 511th call", x.person(-1, -1), 0);
        Due.is("the 512th call", x.about(0), 1);
    }

    private static void person() {
        Due.sentence("A PERSON: its number; NONE, doing nothing, if it can't be, or there are 24.");
        for (int parent : new int[] {LEAST, -2, 7, 24, MOST}) {
            Refused.none("mother " + parent, Refused::office, x -> x.person(parent, 0));
            Refused.none("father " + parent, Refused::office, x -> x.person(-1, parent));
        }
        Refused.none("a 25th", PromiseBoundsTest::fullOfPeople, x -> x.person(-1, -1));
        Refused.none("a 25th child", PromiseBoundsTest::fullOfPeople, x -> x.person(0, 23));
    }

    private static void dead() {
        Due.sentence("DEAD from a day on: true; false, doing nothing, if it is told already, or can't be.");
        for (int nobody : NOBODY) {
            Refused.no("dead(" + nobody + ", 0)", Refused::office, x -> x.dead(nobody, 0) ? 1 : 0);
        }
        for (int day : NO_DAYS) {
            Refused.no("dead(1, " + day + ")", Refused::office, x -> x.dead(1, day) ? 1 : 0);
        }
        for (int day : new int[] {0, 9, 10, 11, 36499}) {
            Refused.no("told already: " + day, Refused::office, x -> x.dead(0, day) ? 1 : 0);
        }
        Due.is("on a day behind today", Refused.office().dead(1, 36499), true);
        Due.is("on a day ahead of its mother's", Refused.office().dead(3, 0), true);
    }

    private static void house() {
        Due.sentence("A HOUSE: its number; NONE, doing nothing, if it can't be, or there are 8.");
        for (int nobody : NOBODY) {
            Refused.none("house(" + nobody + ", 1)", Refused::office, x -> x.house(nobody, 1));
        }
        for (int worth : NO_MONEY) {
            Refused.none("house(0, " + worth + ")", Refused::office, x -> x.house(0, worth));
        }
        Refused.none("a 9th", PromiseBoundsTest::fullOfHouses, x -> x.house(0, 1));
    }

    private static void level() {
        Due.sentence("LEVEL of a YEAR: true; false, doing nothing, if one can't be.");
        for (int year : NO_YEARS) {
            Refused.no("level(" + year + ", 5)", Refused::office, x -> x.level(year, 5) ? 1 : 0);
        }
        for (int level : new int[] {LEAST, -1, 0, 10001, MOST}) {
            Refused.no("level(1, " + level + ")", Refused::office, x -> x.level(1, level) ? 1 : 0);
            Refused.no("level(99, " + level + ")", Refused::office, x -> x.level(99, level) ? 1 : 0);
        }
        Refused.no("both", Refused::office, x -> x.level(100, 0) ? 1 : 0);
    }

    private static void money() {
        Due.sentence("A sum (0 .. 1000000) of one YEAR in money of another one; NONE if one can't be.");
        HomeRoll x = Refused.office();
        for (int sum : NO_MONEY) {
            Due.is("sum " + sum, x.money(sum, 0, 99), -1);
        }
        for (int year : NO_YEARS) {
            Due.is("from " + year, x.money(1, year, 99), -1);
            Due.is("to " + year, x.money(1, 99, year), -1);
        }
        Due.is("sum 0", x.money(0, 0, 99), 0);
        Due.is("sum 1", x.money(1, 0, 99), 2);
        Due.is("sum 1000000", x.money(1000000, 1, 99), 4000000);
        Due.is("sum 1000000 back", x.money(1000000, 99, 1), 250000);
        Due.is("of one year in its own", x.money(7, 99, 99), 7);
    }

    private static void paper() {
        Due.sentence("A PAPER: its number; NONE, doing nothing, if it can't be");
        for (int house : NO_HOUSES) {
            Refused.none("house " + house, Refused::office, x -> x.paper(house, 5, 6, 1, 0, 0));
        }
        for (int nobody : NOBODY) {
            Refused.none("from " + nobody, Refused::office, x -> x.paper(0, nobody, 6, 950, 0, 0));
            Refused.none("to " + nobody, Refused::office, x -> x.paper(0, 5, nobody, 950, 0, 0));
        }
        for (int day : new int[] {LEAST, -1, 1002, 36499, 36500, MOST}) {
            Refused.none("day " + day, Refused::office, x -> x.paper(0, 5, 6, day, 0, 0));
        }
        for (int sort : new int[] {LEAST, -1, 3, MOST}) {
            Refused.none("sort " + sort, Refused::office, x -> x.paper(0, 5, 6, 950, sort, 0));
        }
        for (int price : NO_MONEY) {
            Refused.none("price " + price, Refused::office, x -> x.paper(0, 5, 6, 950, 0, price));
        }
        Due.is("one that can be", Refused.office().paper(0, 5, 6, 1001, 0, 0), 4);
    }

    private static void paperOfAlikePersons() {
        Due.sentence("(the PERSONS alike, too)");
        for (int person = 0; person < 7; person++) {
            int alike = person;
            Refused.none("from and to " + person, Refused::office, x -> x.paper(0, alike, alike, 950, 0, 0));
        }
    }

    private static void sixtyOnePapers() {
        Due.sentence("or there are 60.");
        Due.is("there are 60", fullOfPapers().about(2), 60);
        Refused.none("a 61st", PromiseBoundsTest::fullOfPapers, x -> x.paper(0, 5, 6, 950, 0, 0));
        Refused.none("a 61st of another house", PromiseBoundsTest::fullOfPapers, x -> x.paper(1, 3, 0, 1001, 2, 9));
    }

    private static void isFalse() {
        Due.sentence("A PAPER is FALSE: true; false if it is so already, or there is none such.");
        for (int paper : NO_PAPERS) {
            Refused.no("isFalse(" + paper + ")", Refused::office, x -> x.isFalse(paper) ? 1 : 0);
        }
        Refused.no("so already", Refused::office, x -> x.isFalse(1) ? 1 : 0);
        HomeRoll x = Refused.office();
        x.later(5);
        Due.is("so already, on a later day", x.isFalse(1), false);
        Due.is("from the first day told", x.loose(1, 1001), -1);
        Due.is("not before", x.loose(1, 1000), 0);
        Due.is("a loose one", x.isFalse(2), true);
        Due.is("a claimed one", x.isFalse(0), true);
        Due.is("the last one", x.isFalse(3), true);
        Due.is("the last one again", x.isFalse(3), false);
    }

    private static void later() {
        Due.sentence("So many days later (0 .. 1000): TODAY; NONE, doing nothing, for another number");
        for (int days : new int[] {LEAST, LEAST + 1, -1000, -1, 1001, 36499, MOST - 1, MOST}) {
            Refused.none("later(" + days + ")", Refused::office, x -> x.later(days));
        }
        Refused.answered("later(0)", Refused::office, x -> x.later(0), 1001);
        Due.is("later(1)", Refused.office().later(1), 1002);
        Due.is("later(999)", Refused.office().later(999), 2000);
        Due.is("later(1000)", Refused.office().later(1000), 2001);
    }

    private static void laterThanTheLastDay() {
        Due.sentence("or if it would be above 36499");
        for (int days : new int[] {1, 2, 999, 1000}) {
            HomeRoll x = onTheLastDay();
            Due.is("later(" + days + ")", x.later(days), -1);
            Due.is("about(3)", x.about(3), 36499);
            Due.is("later(0)", x.later(0), 36499);
        }
        HomeRoll y = new HomeRoll();
        Due.goTo(y, 35500);
        Due.is("later(1000)", y.later(1000), -1);
        Due.is("later(999)", y.later(999), 36499);
    }

    private static void holder() {
        Due.sentence("HOLDER of a HOUSE at the end of d as known on k; NONE if there is no such HOUSE.");
        HomeRoll x = Refused.office();
        for (int house : NO_HOUSES) {
            Due.is("holder(" + house + ", 1001, 1001)", x.holder(house, 1001, 1001), -1);
        }
        Due.is("on 399", x.holder(0, 399, 1000), 0);
        Due.is("on 400", x.holder(0, 400, 1000), 5);
        Due.is("on 899", x.holder(0, 899, 1000), 5);
        Due.is("on 900", x.holder(0, 900, 1000), 6);
        Due.is("on 900 as known on 999", x.holder(0, 900, 999), 0);
        Due.is("on 900 as known on 1001", x.holder(0, 900, 1001), 5);
        Due.is("the least of both", x.holder(0, LEAST, LEAST), 0);
        Due.is("the most of both", x.holder(0, MOST, MOST), 5);
        Due.is("a day behind k", x.holder(0, MOST, 1000), 6);
        Due.is("the last house", x.holder(2, 1001, 1001), 5);
    }

    private static void loose() {
        Due.sentence("1 if a PAPER is LOOSE as known on k, 0 if not; NONE if it does not count then, or there is none such.");
        HomeRoll x = Refused.office();
        for (int paper : NO_PAPERS) {
            Due.is("loose(" + paper + ", 1001)", x.loose(paper, 1001), -1);
        }
        Due.is("one that is not", x.loose(0, 1001), 0);
        Due.is("one that is", x.loose(2, 1001), 1);
        Due.is("one that is, not found yet", x.loose(2, 999), -1);
        Due.is("one that is, on the day it was found", x.loose(2, 1000), 1);
        Due.is("a false one", x.loose(1, 1001), -1);
        Due.is("a false one, a day before", x.loose(1, 1000), 0);
        Due.is("on the least day", x.loose(0, LEAST), -1);
        Due.is("on the greatest day", x.loose(0, MOST), 0);
    }

    /** Each byte of a law stands at each place of a number once, as the tape is cut to 0 .. 19 bytes ahead of it. */
    private static void feed() {
        Due.sentence("Twenty bytes come behind those on the TAPE, of each number the highest first: how many there are");
        for (int ahead = 0; ahead < 20; ahead++) {
            HomeRoll x = new HomeRoll();
            Due.is("blanks", x.feed(0x20202020, 0x0a0a0a0a, 0x20202020, 0x0a0a0a0a, 0x20202020), 20);
            Due.is("end", x.end(ahead), ahead);
            Due.is("law", x.feed(0x7768656e, 0x20666f72, 0x63656420, 0x646f2062, 0x61636b3b), ahead + 20);
            Due.is("one more", x.feed(0x3b202020, 0x20202020, 0x20202020, 0x20202020, 0x202020ff), ahead + 40);
            Due.is("cut", x.end(ahead + 21), ahead + 21);
            Due.is("law()", x.law(), -1);
            Due.is("fault(1)", x.fault(1), ahead + 20);
        }
        for (int place = 0; place < 20; place++) {
            int[] numbers = {0x20202020, 0x20202020, 0x20202020, 0x20202020, 0x20202020};
            numbers[place / 4] ^= 0xa0 << 24 - place % 4 * 8;
            HomeRoll x = new HomeRoll();
            x.feed(numbers[0], numbers[1], numbers[2], numbers[3], numbers[4]);
            Due.is("a byte 128 at " + place, x.law(), -1);
            Due.is("its fault", x.fault(0), 1);
            Due.is("its place", x.fault(1), place);
        }
    }

    private static void feedBeyondTheTape() {
        Due.sentence("NONE, and nothing comes, if there would be more than 600.");
        Refused.none("to 620", PromiseBoundsTest::fullOfBytes, x -> x.feed(0x3f3f3f3f, 0, 0, 0, 0));
        for (int bytes : new int[] {581, 590, 599}) {
            HomeRoll x = fullOfBytes();
            x.end(bytes);
            Due.is("behind " + bytes, x.feed(0x3f3f3f3f, 0, 0, 0, 0), -1);
            Due.is("about(7)", x.about(7), bytes);
            Due.is("law()", x.law(), 1);
        }
        HomeRoll x = fullOfBytes();
        x.end(580);
        Due.is("behind 580", x.feed(0x3f3f3f3f, 0, 0, 0, 0), 600);
        Due.is("behind 600", x.feed(0x3f3f3f3f, 0, 0, 0, 0), -1);
        Due.is("law()", x.law(), -1);
        Due.is("its place", x.fault(1), 580);
    }

    private static void end() {
        Due.sentence("The TAPE has its first n bytes: n; NONE, doing nothing, if it has not so many, or n is below 0.");
        for (int n : new int[] {LEAST, -20, -1, 21, 600, 601, MOST}) {
            Refused.none("end(" + n + ")", Refused::office, x -> x.end(n));
        }
        Refused.answered("all that there are", Refused::office, x -> x.end(20), 20);
        Refused.none("more than 600", PromiseBoundsTest::fullOfBytes, x -> x.end(601));
        HomeRoll x = Refused.office();
        Due.is("end(19)", x.end(19), 19);
        Due.is("end(20), which it has no more", x.end(20), -1);
        Due.is("about(7)", x.about(7), 19);
        Due.is("end(0)", x.end(0), 0);
        Due.is("end(1)", x.end(1), -1);
        Due.is("end(0) of none", x.end(0), 0);
        Due.is("about(7)", x.about(7), 0);
        Due.is("its law", x.law(), 0);
    }

    private static void law() {
        Due.sentence("The TAPE (empty then) is the LAW: how many lines");
        HomeRoll x = Refused.office();
        Due.is("law()", x.law(), 1);
        Due.is("the tape", x.about(7), 0);
        Due.is("lines", x.about(4), 1);
        Due.is("ruling by it alone", x.ruling(0, 1001), 4);
        Due.is("ruling by it", x.ruling(1, 1001), 4);
        Due.is("law() of nothing", x.law(), 0);
        Due.is("lines", x.about(4), 0);
        Due.is("what comes next is all", Due.law(x, "when 1 do back;".repeat(16)), 16);
        Due.is("lines", x.about(4), 16);
        Due.is("a shorter one", Due.law(x, "when 1 do other;"), 1);
        Due.is("lines", x.about(4), 1);
        Due.is("ruling", x.ruling(0, 1001), 2);
    }

    /** Of the laws before nothing is left, be they longer or shorter, right or wrong. */
    private static void lawAfterLaw() {
        Due.sentence("The TAPE (empty then) is the LAW: how many lines");
        HomeRoll x = Refused.office();
        String longest = "when " + "0 or ".repeat(79) + "0 do back;";
        for (int i = 0; i < 4; i++) {
            Due.is("two lines", Due.law(x, "when 0 do back;when 1 do money 7;"), 2);
            Due.is("ruling by the second", x.ruling(0, 1001), 3);
            Due.is("the longest", Due.law(x, longest), 1);
            Due.is("it does not hold", x.ruling(0, 1001), 4);
            Due.is("a fault behind two lines", Due.law(x, "when 1 do back;when 1 do other;when"), -1);
            Due.is("the longest is there still", x.ruling(0, 1001), 4);
            Due.is("a short one", Due.law(x, "when 0 do back;"), 1);
            Due.is("it does not hold", x.ruling(0, 1001), 4);
            Due.is("another short one", Due.law(x, "when 7 do other;"), 1);
            Due.is("it holds", x.ruling(0, 1001), 2);
        }
    }

    private static void lawWithAFault() {
        Due.sentence("NONE: a FAULT (that there is stays).");
        String[] faults = {"?", "when", "when 1 do back;when 1 do money 101;", "when 1 do back;".repeat(17), "(((((((("};
        for (String text : faults) {
            HomeRoll x = Refused.office();
            Due.is("law of " + text, Due.law(x, text), -1);
            Due.is("the tape", x.about(7), 0);
            Due.is("lines", x.about(4), 2);
            Due.is("ruling by the first line", x.ruling(0, 1001), 3);
            Due.is("its sum", x.sum(0, 1001), 4000);
            Due.is("ruling by the second line", x.ruling(1, 1001), 2);
            Due.is("and again", Due.law(x, text), -1);
            Due.is("ruling by the second line", x.ruling(1, 1001), 2);
        }
        HomeRoll y = new HomeRoll();
        Due.is("a fault without a law", Due.law(y, "when"), -1);
        Due.is("lines", y.about(4), 0);
    }

    private static void fault() {
        Due.sentence("Of the latest law() what 0: its FAULT (0), 1: its place (NONE). NONE for another what.");
        HomeRoll x = new HomeRoll();
        faultIs(x, 0, -1);
        Due.law(x, "?");
        faultIs(x, 1, 0);
        Due.write(x, "when 1 do money 101;");
        faultIs(x, 1, 0);
        x.law();
        faultIs(x, 3, 16);
        x.law();
        faultIs(x, 0, -1);
        Due.law(x, "when");
        faultIs(x, 2, 4);
        Due.law(x, "when 1 do back;");
        faultIs(x, 0, -1);
        Due.law(x, "?");
        Due.law(x, "?");
        faultIs(x, 1, 0);
    }

    private static void faultIs(HomeRoll x, int fault, int place) {
        Due.is("fault(0)", x.fault(0), fault);
        Due.is("fault(1)", x.fault(1), place);
        for (int what : new int[] {LEAST, -1, 2, 3, MOST}) {
            Due.is("fault(" + what + ")", x.fault(what), -1);
        }
    }

    private static void claim() {
        Due.sentence("A CLAIM by a PAPER: its number; NONE, doing nothing, if there is none such, it is claimed already, or there are 30.");
        for (int paper : NO_PAPERS) {
            Refused.none("claim(" + paper + ")", Refused::office, x -> x.claim(paper));
        }
        Refused.none("claimed already", Refused::office, x -> x.claim(0));
        Refused.none("claimed already, the last", Refused::office, x -> x.claim(3));
        Refused.none("a 31st", PromiseBoundsTest::fullOfClaims, x -> x.claim(59));
        Refused.none("a 31st by a loose one", PromiseBoundsTest::fullOfClaims, x -> x.claim(2));
        Due.is("there are 30", fullOfClaims().about(5), 30);
        Due.is("by a loose one", Refused.office().claim(2), 2);
        Due.is("by a false one", Refused.office().claim(1), 2);
    }

    private static void ruling() {
        Due.sentence("RULING as known on k; NONE if there is no such CLAIM, its PAPER does not count then, or is LOOSE.");
        HomeRoll x = Refused.office();
        x.claim(1);
        x.claim(2);
        for (int claim : new int[] {LEAST, -1, 4, 30, MOST}) {
            Due.is("ruling(" + claim + ", 1001)", x.ruling(claim, 1001), -1);
        }
        Due.is("its paper counts", x.ruling(0, 1000), 3);
        Due.is("its paper was not found yet", x.ruling(0, 999), -1);
        Due.is("its paper was not false yet", x.ruling(2, 1000), 2);
        Due.is("its paper is false", x.ruling(2, 1001), -1);
        Due.is("its paper is loose", x.ruling(3, 1001), -1);
        Due.is("on the least day", x.ruling(0, LEAST), -1);
        Due.is("on the greatest day", x.ruling(0, MOST), 3);
    }

    private static void sum() {
        Due.sentence("Its SUM; NONE likewise.");
        HomeRoll x = Refused.office();
        x.claim(1);
        x.claim(2);
        for (int claim : new int[] {LEAST, -1, 4, 30, MOST}) {
            Due.is("sum(" + claim + ", 1001)", x.sum(claim, 1001), -1);
        }
        Due.is("its paper counts", x.sum(0, 1000), 4000);
        Due.is("its paper was not found yet", x.sum(0, 999), -1);
        Due.is("its paper was not false yet", x.sum(2, 1000), 0);
        Due.is("its paper is false", x.sum(2, 1001), -1);
        Due.is("its paper is loose", x.sum(3, 1001), -1);
        Due.is("on the least day", x.sum(0, LEAST), -1);
        Due.is("on the greatest day", x.sum(0, MOST), 4000);
    }

    private static void term() {
        Due.sentence("of a CLAIM as known on k; NONE likewise, or for another term.");
        HomeRoll x = Refused.office();
        x.claim(1);
        x.claim(2);
        int[] first = {1, 0, 200, 10000, 1, 1, 0, 1, 1};
        int[] second = {0, 1, 36, 0, 1, 1, 0, 1, 0};
        for (int term = 0; term < 9; term++) {
            Due.is("term(0, " + term + ", 1001)", x.term(0, term, 1001), first[term]);
            Due.is("term(1, " + term + ", 1001)", x.term(1, term, 1001), second[term]);
            Due.is("its paper was not found yet", x.term(0, term, 999), -1);
            Due.is("its paper is false", x.term(2, term, 1001), -1);
            Due.is("its paper is loose", x.term(3, term, 1001), -1);
            for (int claim : new int[] {LEAST, -1, 4, 30, MOST}) {
                Due.is("term(" + claim + ", " + term + ", 1001)", x.term(claim, term, 1001), -1);
            }
        }
        for (int term : new int[] {LEAST, -1, 9, 10, MOST}) {
            Due.is("term(0, " + term + ", 1001)", x.term(0, term, 1001), -1);
            Due.is("term(9, " + term + ", 1001)", x.term(9, term, 1001), -1);
        }
        Due.is("on the greatest day", x.term(0, 2, MOST), 200);
        Due.is("not false yet", x.term(2, 2, 1000), 400);
    }

    private static void share() {
        Due.sentence("the numerator (part 0; 0 without) or denominator (1; 1 without); NONE if one can't be.");
        HomeRoll x = Refused.office();
        for (int nobody : NOBODY) {
            Due.is("share of " + nobody, x.share(nobody, 0, 0, 0), -1);
            Due.is("share of " + nobody, x.share(nobody, 0, 0, 1), -1);
            Due.is("share for " + nobody, x.share(0, nobody, 0, 0), -1);
            Due.is("share for " + nobody, x.share(0, nobody, 0, 1), -1);
        }
        for (int day : NO_DAYS) {
            Due.is("share on " + day, x.share(0, 3, day, 0), -1);
            Due.is("share on " + day, x.share(0, 3, day, 1), -1);
        }
        for (int part : new int[] {LEAST, -1, 2, MOST}) {
            Due.is("part " + part, x.share(0, 3, 10, part), -1);
        }
        Due.is("numerator", x.share(0, 3, 10, 0), 1);
        Due.is("denominator", x.share(0, 3, 10, 1), 2);
        Due.is("numerator without", x.share(0, 4, 10, 0), 0);
        Due.is("denominator without", x.share(0, 4, 10, 1), 1);
        Due.is("numerator of a stranger", x.share(0, 5, 10, 0), 0);
        Due.is("denominator of a stranger", x.share(0, 5, 10, 1), 1);
        Due.is("its own, numerator", x.share(0, 0, 9, 0), 1);
        Due.is("its own, denominator", x.share(0, 0, 9, 1), 1);
        Due.is("its own no more, numerator", x.share(0, 0, 10, 0), 0);
        Due.is("its own no more, denominator", x.share(0, 0, 10, 1), 1);
        Due.is("on the first day", x.share(0, 0, 0, 0), 1);
        Due.is("on the last day", x.share(0, 4, 36499, 1), 2);
    }

    private static void want() {
        Due.sentence("A WANT: how many were told; NONE, doing nothing, if it can't be (the same HOUSE, a JOY above 1000), or there are 40.");
        for (int house = 0; house < 3; house++) {
            int same = house;
            Refused.none("the same house", Refused::office, x -> x.want(same, same, 5));
            Refused.none("the same house, no more", Refused::office, x -> x.want(same, same, 0));
        }
        for (int house : NO_HOUSES) {
            Refused.none("house " + house, Refused::office, x -> x.want(house, 0, 5));
            Refused.none("other " + house, Refused::office, x -> x.want(0, house, 5));
            Refused.none("both " + house, Refused::office, x -> x.want(house, house, 5));
        }
        for (int joy : new int[] {LEAST, -1, 1001, MOST}) {
            Refused.none("joy " + joy, Refused::office, x -> x.want(0, 1, joy));
        }
        Refused.none("a 41st", PromiseBoundsTest::fullOfWants, x -> x.want(0, 1, 5));
        Refused.none("a 41st, no more", PromiseBoundsTest::fullOfWants, x -> x.want(0, 1, 0));
        Due.is("a 4th", Refused.office().want(0, 1, 1000), 4);
        Due.is("a 4th, no more", Refused.office().want(0, 1, 0), 4);
    }

    private static void joy() {
        Due.sentence("The sum of JOYS of BEST.");
        HomeRoll x = Refused.office();
        Due.is("joy()", x.joy(), 22);
        x.want(2, 0, 1);
        Due.is("a ring of three", x.joy(), 31);
        x.want(0, 1, 1000);
        x.want(1, 2, 1000);
        x.want(2, 0, 1000);
        Due.is("the greatest of three", x.joy(), 3000);
        x.house(0, 1);
        Due.is("a house that nobody wants", x.joy(), 3000);
        x.want(0, 1, 0);
        x.want(1, 0, 0);
        Due.is("no ring is left", x.joy(), 0);
    }

    private static void swap() {
        Due.sentence("The HOUSE that is given for a HOUSE by BEST; NONE if there is none such.");
        HomeRoll x = Refused.office();
        for (int house : NO_HOUSES) {
            Due.is("swap(" + house + ")", x.swap(house), -1);
        }
        Due.is("swap(0)", x.swap(0), 1);
        Due.is("swap(1)", x.swap(1), 0);
        Due.is("swap(2)", x.swap(2), 2);
        x.house(0, 1);
        Due.is("swap(3), a new house", x.swap(3), 3);
        Due.is("swap(4)", x.swap(4), -1);
        Due.is("swap(0) as before", x.swap(0), 1);
        HomeRoll y = fullOfHouses();
        Due.is("the 8th", y.swap(7), 7);
        Due.is("a 9th", y.swap(8), -1);
    }

    private static void about() {
        Due.sentence("6: WANTS told, 7: bytes on the TAPE. NONE for another what.");
        HomeRoll x = Refused.office();
        int[] due = {7, 3, 4, 1001, 2, 2, 3, 20};
        for (int what = 0; what < 8; what++) {
            Due.is("about(" + what + ")", x.about(what), due[what]);
        }
        for (int what : new int[] {LEAST, -8, -1, 8, 9, MOST}) {
            Due.is("about(" + what + ")", x.about(what), -1);
        }
        Due.is("24 people", fullOfPeople().about(0), 24);
        Due.is("8 houses", fullOfHouses().about(1), 8);
        Due.is("60 papers", fullOfPapers().about(2), 60);
        Due.is("the last day", onTheLastDay().about(3), 36499);
        Due.is("30 claims", fullOfClaims().about(5), 30);
        Due.is("40 wants", fullOfWants().about(6), 40);
        Due.is("600 bytes", fullOfBytes().about(7), 600);
    }

    private static void askingChangesNothing() {
        Due.sentence("Nothing is promised beyond the answers and state changes described above");
        Refused.answered("money", Refused::office, x -> x.money(7, 0, 99), 14);
        Refused.answered("holder", Refused::office, x -> x.holder(0, 900, 1000), 6);
        Refused.answered("loose", Refused::office, x -> x.loose(2, 1001), 1);
        Refused.answered("fault", Refused::office, x -> x.fault(0), 2);
        Refused.answered("ruling", Refused::office, x -> x.ruling(0, 1000), 3);
        Refused.answered("sum", Refused::office, x -> x.sum(0, 1000), 4000);
        Refused.answered("term", Refused::office, x -> x.term(0, 6, 1000), 1);
        Refused.answered("share", Refused::office, x -> x.share(0, 3, 10, 1), 2);
        Refused.answered("joy", Refused::office, x -> x.joy(), 22);
        Refused.answered("swap", Refused::office, x -> x.swap(0), 1);
        Refused.answered("about", Refused::office, x -> x.about(3), 1001);
    }
}
