/** What a test expects of its calls, and what it found. */
final class Due {
    private static int wrong = 0;
    private static int asked = 0;
    private static int sentences = 0;
    private static String sentence = "";

    private Due() {
    }

    /** The document's words that the next answers are held against. */
    static void sentence(String words) {
        sentences++;
        sentence = "[" + words + "] ";
    }

    static void is(String call, long got, long want) {
        asked++;
        if (got != want) {
            wrong++;
            System.out.println(sentence + call + " answered " + got + ", due is " + want);
        }
    }

    static void is(String call, boolean got, boolean want) {
        is(call, got ? 1 : 0, want ? 1 : 0);
    }

    /** Ends the program: with exit code 1 if an answer was not the one that is due. */
    static void end(String test) {
        String quoted = sentences > 0 ? sentences + " sentences, " : "";
        System.out.println(test + ": " + quoted + asked + " answers, " + wrong + " not as due");
        System.exit(wrong == 0 && asked > 0 ? 0 : 1);
    }

    /** So many people without parents. */
    static HomeRoll withPeople(int people) {
        HomeRoll x = new HomeRoll();
        for (int i = 0; i < people; i++) {
            x.person(-1, -1);
        }
        return x;
    }

    /** In so many steps that a day which is never come to can't hold up the test. */
    static void goTo(HomeRoll x, int day) {
        for (int today = x.about(3); today < day; today += 1000) {
            x.later(Math.min(1000, day - today));
        }
        is("today", x.about(3), day);
    }

    /** Puts a text on an empty tape. */
    static void write(HomeRoll x, String text) {
        x.end(0);
        int[] numbers = new int[(text.length() + 19) / 20 * 5];
        for (int i = 0; i < numbers.length * 4; i++) {
            int b = i < text.length() ? text.charAt(i) & 255 : ' ';
            numbers[i / 4] = numbers[i / 4] << 8 | b;
        }
        for (int i = 0; i < numbers.length; i += 5) {
            x.feed(numbers[i], numbers[i + 1], numbers[i + 2], numbers[i + 3], numbers[i + 4]);
        }
        x.end(text.length());
    }

    static int law(HomeRoll x, String text) {
        write(x, text);
        return x.law();
    }
}
