import java.util.Random;

/** All promises: runs of calls drawn by lot (from fixed seeds), held against the plain program. */
public final class RandomRunsTest {
    private static final int RUNS = 3000;
    private static final int CALLS = 512;
    private static final String[] WORDS = {"when", "do", "back", "other", "money", "none", "or", "and", "not",
        "forced", "given", "price", "worth", "year", "held", "hands", "lives", "dead", ";", "(", ")", "<", ">", "=",
        "+", "-", "0", "1", "100", "101", "0000007", "12345678", "sale", "abcdefgh", "abcdefghi", "?", "A", "\t",
        "\u00e4", "7x"};

    private final Random lot;
    private final HomeRoll x = new HomeRoll();
    private final Plain plain = new Plain();
    private final int run;
    private final int rareWrong;
    private int calls = 0;

    private RandomRunsTest(int run) {
        this.run = run;
        lot = new Random(run);
        rareWrong = 4 + lot.nextInt(60);
    }

    public static void main(String[] args) {
        for (int run = 0; run < RUNS; run++) {
            new RandomRunsTest(run).go();
        }
        Due.end("RandomRunsTest");
    }

    private void go() {
        int people = lot.nextInt(26);
        for (int i = 0; i < people; i++) {
            call("person", parent(i), parent(i));
        }
        int houses = lot.nextInt(10);
        for (int i = 0; i < houses; i++) {
            call("house", person(), lot.nextInt(2) == 0 ? lot.nextInt(50) : lot.nextInt(1000001));
        }
        int stride = 1 + lot.nextInt(1000);
        while (calls < CALLS) {
            step(stride);
        }
    }

    private void step(int stride) {
        switch (lot.nextInt(22)) {
            case 0: call("person", parent(about(0)), parent(about(0))); break;
            case 1: call("dead", person(), day()); break;
            case 2: call("house", person(), odd(lot.nextInt(1000001))); break;
            case 3: call("level", odd(lot.nextInt(101)), odd(lot.nextInt(2) == 0 ? lot.nextInt(5) : lot.nextInt(10001))); break;
            case 4: call("money", odd(lot.nextInt(1000001)), odd(lot.nextInt(101)), odd(lot.nextInt(101))); break;
            case 5: case 6: case 7: paper(); break;
            case 8: if (lot.nextInt(3) == 0) { call("isFalse", known(about(2))); } break;
            case 9: call("later", odd(lot.nextInt(stride))); break;
            case 10: call("holder", house(), day(), day()); break;
            case 11: call("loose", known(about(2)), day()); break;
            case 12: case 13: law(); break;
            case 14: call("claim", known(about(2))); break;
            case 15: case 16: rule(); break;
            case 17: call("share", person(), person(), day(), lot.nextInt(2)); shares(); break;
            case 18: call("want", house(), house(), odd(lot.nextInt(3) == 0 ? lot.nextInt(4) : lot.nextInt(1001))); break;
            case 19: call("joy"); swaps(); break;
            case 20: call("about", lot.nextInt(10) - 1); break;
            default: tape(); break;
        }
    }

    private void paper() {
        int house = house();
        int today = about(3);
        int day = lot.nextInt(today + 1);
        int holder = (int) plain.answer("holder", house, lot.nextInt(2) == 0 ? day : today, today);
        int from = lot.nextInt(4) == 0 ? person() : holder;
        call("paper", house, from, person(), odd(day), odd(lot.nextInt(3)), odd(lot.nextInt(1000001)));
    }

    private void rule() {
        int claim = known(about(5));
        int k = day();
        call("ruling", claim, k);
        call("sum", claim, k);
        call("term", claim, lot.nextInt(11) - 1, k);
    }

    private void shares() {
        int of = person();
        int day = day();
        for (int i = 0; i < 4; i++) {
            int person = person();
            call("share", of, person, day, 0);
            call("share", of, person, day, 1);
        }
    }

    private void swaps() {
        for (int i = 0; i < 3; i++) {
            call("swap", house());
        }
    }

    private void tape() {
        if (lot.nextInt(4) == 0) {
            call("feed", lot.nextInt(), lot.nextInt(), lot.nextInt(), lot.nextInt(), lot.nextInt());
        }
        call("end", lot.nextInt(3) == 0 ? 0 : odd(lot.nextInt(620)));
    }

    private void law() {
        String text = text();
        call("end", 0);
        int[] numbers = new int[(text.length() + 19) / 20 * 5];
        for (int i = 0; i < numbers.length * 4; i++) {
            numbers[i / 4] = numbers[i / 4] << 8 | (i < text.length() ? text.charAt(i) : ' ');
        }
        for (int i = 0; i < numbers.length; i += 5) {
            call("feed", numbers[i], numbers[i + 1], numbers[i + 2], numbers[i + 3], numbers[i + 4]);
        }
        call("end", text.length());
        call("law");
        call("fault", lot.nextInt(4) - 1);
        call("fault", 0);
        call("fault", 1);
        call("about", 4);
        call("about", 7);
    }

    private String text() {
        StringBuilder text = new StringBuilder();
        int lines = lot.nextInt(lot.nextInt(6) == 0 ? 20 : 4);
        for (int i = 0; i < lines; i++) {
            text.append("when ").append(e(lot.nextInt(lot.nextInt(5) == 0 ? 14 : 5))).append(blank()).append("do ");
            String[] rulings = {"back", "other", "money " + lot.nextInt(lot.nextInt(9) == 0 ? 120 : 101), "none"};
            text.append(rulings[lot.nextInt(4)]).append(lot.nextInt(3) == 0 ? "\n ;" : ";").append(blank());
        }
        int changes = lot.nextInt(3) == 0 ? 1 + lot.nextInt(2) : 0;
        for (int i = 0; i < changes; i++) {
            change(text);
        }
        return text.substring(0, Math.min(600, text.length()));
    }

    private void change(StringBuilder text) {
        int at = lot.nextInt(text.length() + 1);
        switch (lot.nextInt(3)) {
            case 0:
                text.insert(at, WORDS[lot.nextInt(WORDS.length)]);
                break;
            case 1:
                text.delete(at, Math.min(text.length(), at + 1 + lot.nextInt(6)));
                break;
            default:
                text.insert(at, " " + WORDS[lot.nextInt(WORDS.length)] + " ");
                break;
        }
    }

    private String blank() {
        String[] blanks = {" ", "  ", "\n", " \n "};
        return blanks[lot.nextInt(blanks.length)];
    }

    private String e(int size) {
        if (size <= 0) {
            return sum();
        }
        switch (lot.nextInt(7)) {
            case 0: return e(size - 1) + " and " + e(size - 2);
            case 1: return e(size - 2) + " or " + e(size - 1);
            case 2: return "not " + e(size - 1);
            case 3: return "(" + e(size - 1) + ")";
            case 4: return "not (" + e(size - 1) + blank() + ")";
            case 5: return sum() + "<=>".charAt(lot.nextInt(3)) + sum();
            default: return sum() + " " + "<=>".charAt(lot.nextInt(3)) + blank() + sum();
        }
    }

    private String sum() {
        StringBuilder sum = new StringBuilder(term());
        for (int i = lot.nextInt(3); i > 0; i--) {
            sum.append(lot.nextBoolean() ? "+" : " - ").append(term());
        }
        return sum.toString();
    }

    private String term() {
        return lot.nextInt(3) == 0 ? String.valueOf(lot.nextInt(lot.nextBoolean() ? 4 : 3000)) : WORDS[9 + lot.nextInt(9)];
    }

    /** Asked of the plain program, so that the other one hears no more than its 512 calls. */
    private int about(int what) {
        return (int) plain.answer("about", what);
    }

    private int parent(int count) {
        return odd(count == 0 || lot.nextInt(4) == 0 ? -1 : lot.nextInt(count));
    }

    private int person() {
        return known(about(0));
    }

    private int house() {
        return known(about(1));
    }

    private int known(int count) {
        return odd(count == 0 ? 0 : lot.nextInt(count));
    }

    private int day() {
        int today = about(3);
        return odd(lot.nextInt(3) == 0 ? today : lot.nextInt(today + 2 + lot.nextInt(5)));
    }

    /** Now and then another number than the one that fits. */
    private int odd(int number) {
        if (lot.nextInt(rareWrong) != 0) {
            return number;
        }
        int[] odd = {-1, -2, 0, 1, 24, 60, 100, 36499, 36500, 1000000, 1000001, Integer.MAX_VALUE, Integer.MIN_VALUE,
            number + 1, number - 1, -number, lot.nextInt()};
        return odd[lot.nextInt(odd.length)];
    }

    private void call(String name, int... a) {
        if (calls >= CALLS) {
            return;
        }
        calls++;
        long due = plain.answer(name, a);
        Due.is("run " + run + ", call " + calls + ": " + name + java.util.Arrays.toString(a), real(name, a), due);
    }

    private long real(String name, int[] a) {
        switch (name) {
            case "person": return x.person(a[0], a[1]);
            case "dead": return x.dead(a[0], a[1]) ? 1 : 0;
            case "house": return x.house(a[0], a[1]);
            case "level": return x.level(a[0], a[1]) ? 1 : 0;
            case "money": return x.money(a[0], a[1], a[2]);
            case "paper": return x.paper(a[0], a[1], a[2], a[3], a[4], a[5]);
            case "isFalse": return x.isFalse(a[0]) ? 1 : 0;
            case "later": return x.later(a[0]);
            case "holder": return x.holder(a[0], a[1], a[2]);
            case "loose": return x.loose(a[0], a[1]);
            case "feed": return x.feed(a[0], a[1], a[2], a[3], a[4]);
            case "end": return x.end(a[0]);
            case "law": return x.law();
            case "fault": return x.fault(a[0]);
            case "claim": return x.claim(a[0]);
            case "ruling": return x.ruling(a[0], a[1]);
            case "sum": return x.sum(a[0], a[1]);
            case "term": return x.term(a[0], a[1], a[2]);
            case "share": return x.share(a[0], a[1], a[2], a[3]);
            case "want": return x.want(a[0], a[1], a[2]);
            case "joy": return x.joy();
            case "swap": return x.swap(a[0]);
            case "about": return x.about(a[0]);
            default: throw new IllegalArgumentException(name);
        }
    }
}
