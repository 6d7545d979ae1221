/** Section 2 of the document's terms, a test for each sentence that names a bound: the law's text and its faults. */
public final class Section2TextBoundsTest {
    private static final String LINE = "when 1 do back;";

    public static void main(String[] args) {
        sixHundredBytes();
        noneAtFirst();
        anyLines();
        partsOfALine();
        ors();
        ands();
        ones();
        relations();
        sums();
        terms();
        lettersOfWords();
        lengthOfWords();
        digits();
        lengthOfNumbers();
        signs();
        blanks();
        asLongAsCanBe();
        noLetterBehindNumbers();
        sixteenLines();
        eightyTerms();
        moneyOfALine();
        withinOthers();
        withinOthersOfBothKinds();
        firstByItsPlace();
        bytesFromNought();
        theEnd();
        atOnePlaceTheLeast();
        noToken();
        cannotStandThere();
        seventeenthLine();
        eightyFirstTerm();
        withinSixOthers();
        moneyThatCannotBe();
        Due.end("Section2TextBoundsTest");
    }

    private static void sixHundredBytes() {
        Due.sentence("LAW is a text of at most 600 bytes");
        String full = LINE + " ".repeat(570) + LINE;
        Texts.good(full, 2);
        Texts.good(full.substring(0, 585), 1);
        Texts.bad(full.substring(0, 599), 2, 599);
        Texts.bad(full.substring(0, 599) + "?", 1, 599);
        HomeRoll x = new HomeRoll();
        Due.write(x, full);
        Due.is("a 601st byte", x.feed(0x20202020, 0x20202020, 0x20202020, 0x20202020, 0x20202020), -1);
        Due.is("bytes", x.about(7), 600);
        Due.is("law", x.law(), 2);
    }

    private static void noneAtFirst() {
        Due.sentence("(none at first)");
        HomeRoll x = Due.withPeople(2);
        x.house(0, 100);
        x.paper(0, 0, 1, 0, 1, 1);
        x.claim(0);
        Due.is("lines", x.about(4), 0);
        Due.is("ruling", x.ruling(0, 0), 4);
        Due.is("sum", x.sum(0, 0), 0);
        Due.is("a law", Due.law(x, "when 1 do money 50;"), 1);
        Due.is("ruling", x.ruling(0, 0), 3);
        Due.is("sum", x.sum(0, 0), 50);
    }

    private static void anyLines() {
        Due.sentence("law = {line}.");
        Texts.good("", 0);
        Texts.good("\n", 0);
        for (int lines = 1; lines <= 16; lines++) {
            Texts.good(LINE.repeat(lines), lines);
        }
        Texts.bad(";", 2, 0);
        Texts.bad(LINE + ";", 2, 15);
        Texts.bad(LINE + "1", 2, 15);
        Texts.bad(LINE + "back;", 2, 15);
    }

    private static void partsOfALine() {
        Due.sentence("line = when e do (back | other | money N | none) ;.");
        Texts.good("when 1 do back;", 1);
        Texts.good("when 1 do other;", 1);
        Texts.good("when 1 do money 7;", 1);
        Texts.good("when 1 do none;", 1);
        Texts.bad("1 do back;", 2, 0);
        Texts.bad("when do back;", 2, 5);
        Texts.bad("when 1 back;", 2, 7);
        Texts.bad("when 1 do ;", 2, 10);
        Texts.bad("when 1 do 7;", 2, 10);
        Texts.bad("when 1 do back", 2, 14);
        Texts.bad("when 1 do back 7;", 2, 15);
        Texts.bad("when 1 do other 7;", 2, 16);
        Texts.bad("when 1 do none 7;", 2, 15);
        Texts.bad("when 1 do money;", 2, 15);
        Texts.bad("when 1 do money price;", 2, 16);
        Texts.bad("when 1 do money (7);", 2, 16);
        Texts.bad("when 1 do money -7;", 2, 16);
        Texts.bad("when 1 do money 7 7;", 2, 18);
        Texts.bad("when 1 do money 7+7;", 2, 17);
        Texts.bad("when 1 do back other;", 2, 15);
        Texts.bad("when 1 do not back;", 2, 10);
        for (String word : "when do or and not forced dead sell ; ( ) < > = + -".split(" ")) {
            Texts.bad("when 1 do " + word + ";", 2, 10);
            Texts.bad("when 1 do money " + word + ";", 2, 16);
        }
    }

    private static void ors() {
        Due.sentence("e = both {or both}.");
        Texts.good("when 1 or 2 or 3 do back;", 1);
        Texts.good("when 1 and 2 or 3 and 4 do back;", 1);
        Texts.bad("when or 1 do back;", 2, 5);
        Texts.bad("when 1 or do back;", 2, 10);
        Texts.bad("when 1 or or 2 do back;", 2, 10);
        Texts.bad("when 1 or and 2 do back;", 2, 10);
        Texts.bad("when (or 1) do back;", 2, 6);
        Texts.bad("when (1 or) do back;", 2, 10);
    }

    private static void ands() {
        Due.sentence("both = one {and one}.");
        Texts.good("when 1 and 2 and 3 do back;", 1);
        Texts.good("when 1 and not 2 and(3)do back;", 1);
        Texts.bad("when and 1 do back;", 2, 5);
        Texts.bad("when 1 and do back;", 2, 11);
        Texts.bad("when 1 and and 2 do back;", 2, 11);
        Texts.bad("when 1 and or 2 do back;", 2, 11);
        Texts.bad("when (and 1) do back;", 2, 6);
        Texts.bad("when (1 and) do back;", 2, 11);
    }

    private static void ones() {
        Due.sentence("one = not one | ( e ) | sum [(< | > | =) sum].");
        Texts.good("when not 1 do back;", 1);
        Texts.good("when not not 1 do back;", 1);
        Texts.good("when (1) do back;", 1);
        Texts.good("when (not (1 or 2)) do back;", 1);
        Texts.good("when not 1 < 2 do back;", 1);
        Texts.bad("when not do back;", 2, 9);
        Texts.bad("when not or 1 do back;", 2, 9);
        Texts.bad("when 1 not do back;", 2, 7);
        Texts.bad("when () do back;", 2, 6);
        Texts.bad("when (1 do back;", 2, 8);
        Texts.bad("when 1) do back;", 2, 6);
        Texts.bad("when (1)) do back;", 2, 8);
        Texts.bad("when (1)(2) do back;", 2, 8);
        Texts.bad("when (1) = 2 do back;", 2, 9);
        Texts.bad("when (1) + 2 do back;", 2, 9);
        Texts.bad("when (1) 2 do back;", 2, 9);
    }

    private static void relations() {
        Due.sentence("sum [(< | > | =) sum]");
        Texts.good("when 1 < 2 do back;", 1);
        Texts.good("when 1 > 2 do back;", 1);
        Texts.good("when 1 = 2 do back;", 1);
        for (String sign : new String[] {"<", ">", "="}) {
            Texts.bad("when " + sign + " 1 do back;", 2, 5);
            Texts.bad("when 1 " + sign + " do back;", 2, 9);
            Texts.bad("when 1 " + sign + " 2 " + sign + " 3 do back;", 2, 11);
            Texts.bad("when 1 " + sign + "= 2 do back;", 2, 8);
            Texts.bad("when 1 " + sign + " (2) do back;", 2, 9);
            Texts.bad("when 1 " + sign + " not 2 do back;", 2, 9);
        }
    }

    private static void sums() {
        Due.sentence("sum = term {(+ | -) term}.");
        Texts.good("when 1 + 2 - 3 + price do back;", 1);
        Texts.good("when 1-2 < 3+4 do back;", 1);
        for (String sign : new String[] {"+", "-"}) {
            Texts.bad("when " + sign + " 1 do back;", 2, 5);
            Texts.bad("when 1 " + sign + " do back;", 2, 9);
            Texts.bad("when 1 " + sign + sign + " 2 do back;", 2, 8);
            Texts.bad("when 1 " + sign + " < 2 do back;", 2, 9);
            Texts.bad("when 1 " + sign + " (2) do back;", 2, 9);
            Texts.bad("when 1 < " + sign + "2 do back;", 2, 9);
        }
        Texts.bad("when 1 2 do back;", 2, 7);
        Texts.bad("when price worth do back;", 2, 11);
    }

    private static void terms() {
        Due.sentence("term = N | forced | given | price | worth | year | held | hands | lives | dead.");
        for (String term : "0 forced given price worth year held hands lives dead".split(" ")) {
            Texts.good("when " + term + " do back;", 1);
            Texts.good("when not(" + term + "+" + term + "<" + term + ")do back;", 1);
        }
        for (String word : "when do back other money none or and sold n hand live forcedx".split(" ")) {
            Texts.bad("when " + word + " do back;", 2, 5);
            Texts.bad("when 1+" + word + " do back;", 2, 7);
        }
        for (String word : "forced given price worth year held hands lives dead".split(" ")) {
            Texts.bad("when " + word.substring(1) + " do back;", 2, 5);
            Texts.bad("when " + word.substring(0, word.length() - 1) + " do back;", 2, 5);
            Texts.bad("when " + word + "s do back;", 2, 5);
        }
    }

    private static void lettersOfWords() {
        Due.sentence("words (a .. z");
        Texts.bad("a", 2, 0);
        Texts.bad("z", 2, 0);
        Texts.bad("`", 1, 0);
        Texts.bad("{", 1, 0);
        Texts.bad("A", 1, 0);
        Texts.bad("Z", 1, 0);
        Texts.bad("_", 1, 0);
        Texts.bad("\u00e1", 1, 0);
        Texts.bad("when`1 do back;", 1, 4);
        Texts.bad("when{1 do back;", 1, 4);
        Texts.bad("whenA1 do back;", 1, 4);
        Texts.bad("WHEN 1 do back;", 1, 0);
    }

    private static void lengthOfWords() {
        Due.sentence("words (a .. z, 8 at most)");
        for (int letters = 1; letters <= 8; letters++) {
            Texts.bad("z".repeat(letters), 2, 0);
            Texts.bad("when 1 do " + "z".repeat(letters) + ";", 2, 10);
        }
        for (int letters = 9; letters <= 18; letters++) {
            Texts.bad("z".repeat(letters), 1, 0);
            Texts.bad("when 1 do " + "z".repeat(letters) + ";", 1, 10);
        }
        Texts.bad("z".repeat(600), 1, 0);
    }

    private static void digits() {
        Due.sentence("N (1 to 7 digits)");
        for (char digit = '0'; digit <= '9'; digit++) {
            Texts.good("when " + digit + " do back;", 1);
        }
        Texts.bad("when / do back;", 1, 5);
        Texts.bad("when : do back;", 1, 5);
        Texts.bad("when 1/2 do back;", 1, 6);
        Texts.bad("when 1:2 do back;", 1, 6);
        Texts.bad("when 1.5 do back;", 1, 6);
    }

    private static void lengthOfNumbers() {
        Due.sentence("N (1 to 7 digits)");
        for (int digits = 1; digits <= 7; digits++) {
            Texts.good("when " + "9".repeat(digits) + " do back;", 1);
            Texts.good("when " + "0".repeat(digits) + " do back;", 1);
        }
        for (int digits = 8; digits <= 22; digits++) {
            Texts.bad("when " + "9".repeat(digits) + " do back;", 1, 5);
            Texts.bad("when " + "0".repeat(digits) + " do back;", 1, 5);
        }
        Texts.bad("1".repeat(600), 1, 0);
    }

    /** Each byte alone: it is a token that can't begin a law, a blank, or none. */
    private static void signs() {
        Due.sentence("signs ; ( ) < > = + -");
        for (int b = 0; b < 256; b++) {
            String text = String.valueOf((char) b);
            boolean isToken = b >= 'a' && b <= 'z' || b >= '0' && b <= '9' || ";()<>=+-".contains(text);
            if (b == 32 || b == 10) {
                Texts.good(text, 0);
            } else {
                Texts.bad(text, isToken ? 2 : 1, 0);
            }
        }
    }

    private static void blanks() {
        Due.sentence("blanks (32, 10) part them or not");
        Texts.good("when(1)do back;", 1);
        Texts.good("when1<2 and(3)or(4)do\nmoney7;when2+3-4=5 do other;", 2);
        Texts.good(" \n when \n 1 \n do \n money \n 7 \n ; \n ", 1);
        Texts.good("\nwhen\n1\ndo\nback\n;\n", 1);
        for (int b : new int[] {0, 9, 11, 12, 13, 31, 33, 127, 128, 160, 255}) {
            Texts.bad("when" + (char) b + "1 do back;", 1, 4);
        }
    }

    private static void asLongAsCanBe() {
        Due.sentence("each is as long as can be");
        Texts.bad("whendo", 2, 0);
        Texts.bad("when notdead do back;", 2, 5);
        Texts.bad("when dead or dead ordead do back;", 2, 18);
        Texts.bad("when 1 doback;", 2, 7);
        Texts.bad("when 1 do moneyn;", 2, 10);
        Texts.bad("when 1 do money 10 1;", 2, 19);
        Texts.good("when 1 do money 10;", 1);
        Texts.bad("when 1 do money 100 0;", 2, 20);
        Texts.bad("when 1 do money 1000;", 3, 16);
    }

    private static void noLetterBehindNumbers() {
        Due.sentence("no letter directly behind an N");
        Texts.bad("when 1do back;", 1, 5);
        Texts.bad("when 1a do back;", 1, 5);
        Texts.bad("when 1z do back;", 1, 5);
        Texts.bad("when 1234567or 1 do back;", 1, 5);
        Texts.bad("when 1 do money 7none;", 1, 16);
        Texts.good("when 1 do back;", 1);
        Texts.good("when 1\ndo back;", 1);
        Texts.good("when(1)do back;", 1);
        Texts.good("when1 do money7;", 1);
        Texts.bad("when 1`", 1, 6);
        Texts.bad("when 1{", 1, 6);
        Texts.bad("when 1A", 1, 6);
    }

    private static void sixteenLines() {
        Due.sentence("At most 16 lines");
        Texts.good(LINE.repeat(15), 15);
        Texts.good(LINE.repeat(16), 16);
        Texts.good(LINE.repeat(16) + " \n", 16);
        Texts.bad(LINE.repeat(17), 2, 240);
        HomeRoll x = Due.withPeople(2);
        x.house(0, 100);
        x.paper(0, 0, 1, 0, 0, 0);
        x.claim(0);
        Due.law(x, "when 0 do back;".repeat(15) + "when 1 do money 9;");
        Due.is("ruling of the 16th line", x.ruling(0, 0), 3);
        Due.is("sum of the 16th line", x.sum(0, 0), 9);
    }

    private static void eightyTerms() {
        Due.sentence("80 terms");
        Texts.good("when " + "1+".repeat(79) + "1 do back;", 1);
        Texts.good("when " + "1 or ".repeat(79) + "1 do back;", 1);
        Texts.good("when " + "1 and ".repeat(79) + "1 do back;", 1);
        Texts.good("when " + "1<1 or ".repeat(39) + "1<1 do back;", 1);
        Texts.good("when " + "1-".repeat(39) + "1=" + "1-".repeat(39) + "1 do back;", 1);
        Texts.good(("when 1" + "+1".repeat(4) + " do money 5;").repeat(16), 16);
        Texts.good("when " + "year+".repeat(79) + "year do money 100;", 1);
    }

    private static void moneyOfALine() {
        Due.sentence("money's N 0 .. 100");
        for (String number : new String[] {"0", "1", "99", "100", "000", "0100", "0000000", "0000100"}) {
            Texts.good("when 1 do money " + number + ";", 1);
        }
        for (String number : new String[] {"101", "0101", "0000101", "200", "1000", "9999999"}) {
            Texts.bad("when 1 do money " + number + ";", 3, 16);
        }
    }

    /** The list of faults says that what is within 6 others can't stand: so 5 of them are the most. */
    private static void withinOthers() {
        Due.sentence("an e or a one within 6 others (in ( ), behind not)");
        for (int depth = 0; depth <= 5; depth++) {
            Texts.good("when " + "(".repeat(depth) + "1" + ")".repeat(depth) + " do back;", 1);
            Texts.good("when " + "not ".repeat(depth) + "1 do back;", 1);
        }
        for (int depth = 6; depth <= 60; depth += 6) {
            Texts.bad("when " + "(".repeat(depth) + "1" + ")".repeat(depth) + " do back;", 2, 11);
            Texts.bad("when " + "not ".repeat(depth) + "1 do back;", 2, 29);
        }
        Texts.bad("(".repeat(600), 2, 0);
        Texts.bad("when " + "(".repeat(595), 2, 11);
    }

    private static void withinOthersOfBothKinds() {
        Due.sentence("an e or a one within 6 others (in ( ), behind not)");
        Texts.good("when not(not(not 1)) do back;", 1);
        Texts.bad("when not(not(not(1))) do back;", 2, 17);
        Texts.good("when (not(not(1))) do back;", 1);
        Texts.bad("when (not(not(not 1))) do back;", 2, 18);
        Texts.good("when (((((1)))))and(((((1)))))or not not not not not 1 do back;", 1);
        Texts.good("when (((((1)or(2))and(3))or(4))and(5)) do back;", 1);
        Texts.good("when (((((1<2 and 3=4 or 5>6))))) do back;", 1);
        Texts.good("when (((((1))))) do back;when (((((1))))) do back;", 2);
        Texts.bad("when (((((1 or (2)))))) do back;", 2, 16);
        Texts.bad("when (((((1 and not 2))))) do back;", 2, 20);
    }

    private static void firstByItsPlace() {
        Due.sentence("FAULTS, the first by its place");
        Texts.bad("when do ? do money 101;", 2, 5);
        Texts.bad("when ? do do money 101;", 1, 5);
        Texts.bad("when 1 do money 101; do ?", 3, 16);
        Texts.bad("when 1 do money 101 ? do", 3, 16);
        Texts.bad("when 1 do back ? ; when 1 do money 101;", 1, 15);
        Texts.bad("when 1 do back; do ; when 1 do money 101;", 2, 16);
        Texts.bad("when 1 do money 101;" + LINE.repeat(16), 3, 16);
        Texts.bad("when " + "1+".repeat(90) + "? do back;", 2, 165);
        Texts.bad("when ((((((( ?", 2, 11);
    }

    private static void bytesFromNought() {
        Due.sentence("by its place (bytes from 0");
        Texts.bad("?", 1, 0);
        Texts.bad(" ?", 1, 1);
        Texts.bad("\n\n;", 2, 2);
        Texts.bad(" ".repeat(599) + "?", 1, 599);
        Texts.bad(" ".repeat(599) + ";", 2, 599);
        Texts.bad("when 1 do back;\u00ff", 1, 15);
    }

    /** Each beginning of a law: what is missing is missing at the end, but for a word that was cut. */
    private static void theEnd() {
        Due.sentence("the end: the text's length");
        String text = "when not (price - 10 < worth or dead) and 3 do money 15 ; ";
        for (int length = 1; length < text.length() - 2; length++) {
            String start = text.substring(0, length);
            boolean cutsWord = Character.isLetter(text.charAt(length - 1)) && Character.isLetter(text.charAt(length));
            int place = cutsWord ? length - start.replaceAll(".*[^a-z]", "").length() : length;
            Texts.bad(start, 2, place);
        }
        Texts.good(text, 1);
        Texts.bad("when   \n", 2, 8);
    }

    private static void atOnePlaceTheLeast() {
        Due.sentence("at one place the least");
        Texts.bad("? 1 do back;", 1, 0);
        Texts.bad("when ? do back;", 1, 5);
        Texts.bad("when 1 do money ?;", 1, 16);
        Texts.bad("when 1 do money 101a;", 1, 16);
        Texts.bad("when 1 do money 00000101;", 1, 16);
        Texts.bad(LINE.repeat(16) + "?", 1, 240);
        Texts.bad(LINE.repeat(16) + "whenwhenw", 1, 240);
        Texts.bad("when " + "1+".repeat(80) + "12345678 do back;", 1, 165);
        Texts.bad("when ((((((? do back;", 1, 11);
        Texts.bad("when not not not not not not 1x do back;", 1, 29);
    }

    private static void noToken() {
        Due.sentence("1 no TOKEN");
        Texts.bad("when 1 * 2 do back;", 1, 7);
        Texts.bad("when 1 do back,", 1, 14);
        Texts.bad("when 1 != 2 do back;", 1, 7);
        Texts.bad("when \"1\" do back;", 1, 5);
        Texts.bad("when forcedforced do back;", 1, 5);
        Texts.bad("when 1 do back;\u0000", 1, 15);
    }

    private static void cannotStandThere() {
        Due.sentence("2 one that can't stand there");
        Texts.bad("do 1 when back;", 2, 0);
        Texts.bad("when 1 when 2 do back;", 2, 7);
        Texts.bad("when 1 do do back;", 2, 10);
        Texts.bad("when 1 do back back;", 2, 15);
        Texts.bad("when 1 ; do back;", 2, 7);
        Texts.bad("when sell do back;", 2, 5);
        Texts.bad("when 1 do sell;", 2, 10);
    }

    private static void seventeenthLine() {
        Due.sentence("a 17th line: at its when");
        Texts.bad(LINE.repeat(17), 2, 240);
        Texts.bad(LINE.repeat(18), 2, 240);
        Texts.bad(LINE.repeat(16) + " \n when 1 do money 101;", 2, 243);
        Texts.bad(LINE.repeat(16) + "when", 2, 240);
        Texts.bad(LINE.repeat(16) + "when ?", 2, 240);
        Texts.bad(LINE.repeat(16) + "1", 2, 240);
    }

    private static void eightyFirstTerm() {
        Due.sentence("an 81st term at it");
        Texts.bad("when " + "1+".repeat(80) + "1 do back;", 2, 165);
        Texts.bad("when " + "1+".repeat(80) + "\n dead do back;", 2, 167);
        Texts.bad("when " + "1 or ".repeat(80) + "1 do back;", 2, 405);
        Texts.bad("when " + "1 and ".repeat(80) + "1 do back;", 2, 485);
        Texts.bad("when " + "1<1 or ".repeat(40) + "1<1 do back;", 2, 285);
        Texts.bad("when " + "1+".repeat(79) + "1<1 do back;", 2, 165);
        Texts.bad("when " + "1+".repeat(79) + "1 or not(1) do back;", 2, 172);
        String lines = ("when 1" + "+1".repeat(4) + " do money 5;").repeat(15);
        Texts.bad(lines + "when 1+1+1+1+1+1 do back;", 2, lines.length() + 15);
        Texts.bad("when " + "1+".repeat(79) + "1 do money 5;" + LINE, 2, 181);
    }

    private static void withinSixOthers() {
        Due.sentence("what is within 6 others: at its first TOKEN");
        Texts.bad("when (((((( \n 1 )))))) do back;", 2, 14);
        Texts.bad("when ((((((((((", 2, 11);
        Texts.bad("when ((((((not 1", 2, 11);
        Texts.bad("when ((((((do", 2, 11);
        Texts.bad("when ((((((", 2, 11);
        Texts.bad("when (((((()))))) do back;", 2, 11);
        Texts.bad("when not not not not not not do back;", 2, 29);
        Texts.bad("when not not not not not not or 1 do back;", 2, 29);
        Texts.bad("when not not not not not not and 1 do back;", 2, 29);
        Texts.bad("when (((((not ", 2, 14);
        Texts.bad("when not not not not not not (1) do back;", 2, 29);
        Texts.bad("when not not not not not (1) do back;", 2, 26);
        Texts.bad(LINE + "when ((((((1)))))) do back;", 2, 26);
    }

    private static void moneyThatCannotBe() {
        Due.sentence("3 money's N that can't be");
        Texts.bad("when 1 do money 101;", 3, 16);
        Texts.bad("when 1 do money101;", 3, 15);
        Texts.bad("when 1 do money \n 101;", 3, 18);
        Texts.bad("when 1 do money 101", 3, 16);
        Texts.bad("when 1 do money 101?", 3, 16);
        Texts.bad(LINE + "when 1 do money 9999999;", 3, 31);
        Texts.good("when 101 do money 100;", 1);
    }
}
