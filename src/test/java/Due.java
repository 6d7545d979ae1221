/** What a test expects of its calls, and what it found. */
final class Due {
    private static int wrong = 0;
    private static int asked = 0;

    private Due() {
    }

    static void is(String call, long got, long want) {
        asked++;
        if (got != want) {
            wrong++;
            System.out.println(call + " answered " + got + ", due is " + want);
        }
    }

    static void is(String call, boolean got, boolean want) {
        is(call, got ? 1 : 0, want ? 1 : 0);
    }

    /** Ends the program: with exit code 1 if an answer was not the one that is due. */
    static void end(String test) {
        System.out.println(test + ": " + asked + " answers, " + wrong + " not as due");
        System.exit(wrong == 0 && asked > 0 ? 0 : 1);
    }

    /** So many people without parents. */
    static HomeRoll withPeople(int people) {
        HomeRoll x = new HomeRoll();
        for (int i = 0; i < people; i++) {
            x.person(-1, -1);
        }
        return x;
    }

    static void goTo(HomeRoll x, int day) {
        while (x.about(3) < day) {
            x.later(Math.min(1000, day - x.about(3)));
        }
    }

    /** Puts a text on an empty tape. */
    static void write(HomeRoll x, String text) {
        x.end(0);
        int[] numbers = new int[(text.length() + 19) / 20 * 5];
        for (int i = 0; i < numbers.length * 4; i++) {
            int b = i < text.length() ? text.charAt(i) & 255 : ' ';
            numbers[i / 4] = numbers[i / 4] << 8 | b;
        }
        for (int i = 0; i < numbers.length; i += 5) {
            x.feed(numbers[i], numbers[i + 1], numbers[i + 2], numbers[i + 3], numbers[i + 4]);
        }
        x.end(text.length());
    }

    static int law(HomeRoll x, String text) {
        write(x, text);
        return x.law();
    }
}
