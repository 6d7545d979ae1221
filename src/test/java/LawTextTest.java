/** Promises 12 to 15: the tape, the law's text and its faults. */
public final class LawTextTest {
    public static void main(String[] args) {
        tape();
        bytesOfNumbers();
        goodTexts();
        noTokens();
        misplaced();
        moneyThatCannotBe();
        limits();
        depth();
        faultsInOrder();
        cutTapes();
        lawThatStays();
        Due.end("LawTextTest");
    }

    private static void tape() {
        HomeRoll x = new HomeRoll();
        Due.is("end(1) of nothing", x.end(1), -1);
        Due.is("end(0) of nothing", x.end(0), 0);
        for (int i = 1; i <= 30; i++) {
            Due.is("feed", x.feed(0, 0, 0, 0, 0), i * 20);
        }
        Due.is("31st feed", x.feed(0, 0, 0, 0, 0), -1);
        Due.is("about(7)", x.about(7), 600);
        Due.is("end(601)", x.end(601), -1);
        Due.is("end(-1)", x.end(-1), -1);
        Due.is("end(600)", x.end(600), 600);
        Due.is("end(581)", x.end(581), 581);
        Due.is("feed to 601", x.feed(0, 0, 0, 0, 0), -1);
        Due.is("about(7)", x.about(7), 581);
        Due.is("end(580)", x.end(580), 580);
        Due.is("feed to 600", x.feed(0, 0, 0, 0, 0), 600);
        Due.is("end(3)", x.end(3), 3);
        Due.is("feed to 23", x.feed(0, 0, 0, 0, 0), 23);
        Due.is("law of 0 bytes", x.law(), -1);
        Due.is("about(7) behind law", x.about(7), 0);
    }

    private static void bytesOfNumbers() {
        HomeRoll x = new HomeRoll();
        x.feed(0x7768656e, 0x20312064, 0x6f206261, 0x636b3b20, 0x20202020);
        Due.is("when 1 do back;", x.law(), 1);
        x.feed(0x20202020, 0x20202020, 0x20202020, 0x20202020, 0x202020ff);
        Due.is("a byte above 127", x.law(), -1);
        Due.is("its fault", x.fault(0), 1);
        Due.is("its place", x.fault(1), 19);
        x.feed(0x80000000, 0, 0, 0, 0);
        Due.is("the highest first", x.law(), -1);
        Due.is("its place", x.fault(1), 0);
        x.feed(0x0a0a0a0a, 0x20202020, 0x0a200a20, 0x20202020, 0x0a0a0a0a);
        Due.is("blanks", x.law(), 0);
        Due.is("fault(0)", x.fault(0), 0);
        Due.is("fault(1)", x.fault(1), -1);
    }

    private static void goodTexts() {
        Texts.good("", 0);
        Texts.good("   \n ", 0);
        Texts.good("when forced do back;", 1);
        Texts.good("when 1 do back;", 1);
        Texts.good("when1 do back;when(forced)do none;", 2);
        Texts.good("when forced+given-price<worth+7 and not(year=3 or held>2)or lives do money0;", 1);
        Texts.good("when not not hands do other;when dead do money 100;", 2);
        Texts.good("when 1=1 do money 0000100;", 1);
        Texts.good("when 9999999 do back;", 1);
        Texts.good("when\nlives\ndo\nback\n;\n", 1);
        Texts.good("when 1<2 and(1)do back;", 1);
    }

    private static void noTokens() {
        Texts.bad("?", 1, 0);
        Texts.bad("when forced do back; .", 1, 21);
        Texts.bad("When forced do back;", 1, 0);
        Texts.bad("when Forced do back;", 1, 5);
        Texts.bad("when\tforced do back;", 1, 4);
        Texts.bad("when forced\rdo back;", 1, 11);
        Texts.bad("when abcdefghi do back;", 1, 5);
        Texts.bad("abcdefghi", 1, 0);
        Texts.bad("when 12345678 do back;", 1, 5);
        Texts.bad("when 00000001 do back;", 1, 5);
        Texts.bad("when 1234567890123456789012 do back;", 1, 5);
        Texts.bad("when 1do back;", 1, 5);
        Texts.bad("when 1 do money 5x;", 1, 16);
        Texts.bad("when 1 do money 101x;", 1, 16);
        Texts.bad("when 12A do back;", 1, 7);
        Texts.bad("when 1 do back\u0000;", 1, 14);
        Texts.bad("when 1 * 2 do back;", 1, 7);
    }

    private static void misplaced() {
        Texts.bad("forced", 2, 0);
        Texts.bad("back", 2, 0);
        Texts.bad(";", 2, 0);
        Texts.bad("abcdefgh", 2, 0);
        Texts.bad("when", 2, 4);
        Texts.bad("when   ", 2, 7);
        Texts.bad("when do back;", 2, 5);
        Texts.bad("when forced", 2, 11);
        Texts.bad("when forced back;", 2, 12);
        Texts.bad("when forced do;", 2, 14);
        Texts.bad("when forced do forced;", 2, 15);
        Texts.bad("when forced do back", 2, 19);
        Texts.bad("when forced do back when", 2, 20);
        Texts.bad("when forced do back;;", 2, 20);
        Texts.bad("when forced do money;", 2, 20);
        Texts.bad("when forced do money", 2, 20);
        Texts.bad("when forced do money worth;", 2, 21);
        Texts.bad("when forced do back 5;", 2, 20);
        Texts.bad("when forced and do back;", 2, 16);
        Texts.bad("when or forced do back;", 2, 5);
        Texts.bad("when forced or or given do back;", 2, 15);
        Texts.bad("when 1 < 2 < 3 do back;", 2, 11);
        Texts.bad("when 1 < = 3 do back;", 2, 9);
        Texts.bad("when (1) < 3 do back;", 2, 9);
        Texts.bad("when (1) + 3 do back;", 2, 9);
        Texts.bad("when 1 < (3) do back;", 2, 9);
        Texts.bad("when 1 + (3) do back;", 2, 9);
        Texts.bad("when 1 + not 3 do back;", 2, 9);
        Texts.bad("when 1 = not 3 do back;", 2, 9);
        Texts.bad("when - 3 do back;", 2, 5);
        Texts.bad("when 1 -- 3 do back;", 2, 8);
        Texts.bad("when () do back;", 2, 6);
        Texts.bad("when (1 do back;", 2, 8);
        Texts.bad("when 1) do back;", 2, 6);
        Texts.bad("when ((1) do back;", 2, 10);
        Texts.bad("when not do back;", 2, 9);
        Texts.bad("when 1 2 do back;", 2, 7);
        Texts.bad("when deadyear do back;", 2, 5);
        Texts.bad("whenforced do back;", 1, 0);
        Texts.bad("when force do back;", 2, 5);
        Texts.bad("when forceds do back;", 2, 5);
        Texts.bad("when when do back;", 2, 5);
        Texts.bad("when none do back;", 2, 5);
        Texts.bad("when xorced do back;", 2, 5);
        Texts.bad("when forcex do back;", 2, 5);
        Texts.bad("zzz", 2, 0);
        Texts.bad("az", 2, 0);
    }

    private static void moneyThatCannotBe() {
        Texts.bad("when 1 do money 101;", 3, 16);
        Texts.bad("when 1 do money 9999999;", 3, 16);
        Texts.bad("when 1 do money0000101;", 3, 15);
        Texts.bad("when 1 do money 101", 3, 16);
        Texts.bad("when 1 do money 200 ?", 3, 16);
    }

    private static void limits() {
        String line = "when 1 do back;";
        Texts.good(line.repeat(16), 16);
        Texts.good(line.repeat(16) + "   ", 16);
        Texts.bad(line.repeat(17), 2, 240);
        Texts.bad(line.repeat(16) + " \n when", 2, 243);
        Texts.bad(line.repeat(16) + ";", 2, 240);
        Texts.bad(line.repeat(16) + "!", 1, 240);
        Texts.good("when " + "1+".repeat(79) + "1 do back;", 1);
        Texts.bad("when " + "1+".repeat(80) + "1 do back;", 2, 165);
        Texts.bad("when " + "1+".repeat(80) + "do back;", 2, 165);
        Texts.bad("when " + "1+".repeat(80) + "?", 1, 165);
        String forty = "when " + "1-".repeat(39) + "1 do money 5;";
        Texts.good(forty.repeat(2), 2);
        Texts.bad(forty.repeat(2) + line, 2, forty.length() * 2 + 5);
        Texts.good("when " + "1 or ".repeat(79) + "1 do back;", 1);
        Texts.bad("when " + "1 or ".repeat(80) + "1 do back;", 2, 405);
        Texts.good("when " + "1 and ".repeat(79) + "1 do back;", 1);
        String most = line + " ".repeat(570) + line;
        Texts.good(most, 2);
    }

    private static void depth() {
        Texts.good("when ((((( 1 ))))) do back;", 1);
        Texts.bad("when (((((( 1 )))))) do back;", 2, 12);
        Texts.bad("when ((((((", 2, 11);
        Texts.bad("when ((((((?", 1, 11);
        Texts.good("when " + "not ".repeat(5) + "1 do back;", 1);
        Texts.bad("when " + "not ".repeat(6) + "1 do back;", 2, 29);
        Texts.bad("when " + "not ".repeat(7) + "1 do back;", 2, 29);
        Texts.good("when not(not(not 1)) and not(not(not 1)) do back;", 1);
        Texts.bad("when not(not(not(1))) do back;", 2, 17);
        Texts.good("when not (1 and (2 or (3 and (4)))) or not not not not not 5 do back;", 1);
        Texts.bad("when (1 or (2 or (3 or (4 or (5 or (6)))))) do back;", 2, 36);
    }

    private static void faultsInOrder() {
        Texts.bad("when do ?", 2, 5);
        Texts.bad("when ? do", 1, 5);
        Texts.bad("when 1 do money 101 101x", 3, 16);
        Texts.bad("when 1 ) ? do money 101;", 2, 7);
    }

    /** What stood on the tape behind its end is not there. */
    private static void cutTapes() {
        cut("abcdefgh", "i", 2);
        cut("when 1 do money 100;12", "x", 2);
        cut("when 1 do money 100;1234567", "8", 2);
        cut("when 1 do money 10", "1", 2);
        cut("when 1 do bac", "k;", 2);
        HomeRoll x = new HomeRoll();
        Due.write(x, "when 1 do back;when 2 do back;");
        x.end(15);
        Due.is("a law that was cut", x.law(), 1);
        x.feed(0x20202020, 0x20202020, 0x20202020, 0x20202020, 0x20202020);
        Due.is("the next tape begins anew", x.law(), 0);
    }

    private static void cut(String text, String behind, int fault) {
        HomeRoll x = new HomeRoll();
        Due.write(x, text + behind);
        x.end(text.length());
        Due.is("law of: " + text, x.law(), -1);
        Due.is("fault of: " + text, x.fault(0), fault);
    }

    private static void lawThatStays() {
        HomeRoll x = Due.withPeople(2);
        x.house(0, 100);
        x.paper(0, 0, 1, 0, 1, 0);
        x.claim(0);
        Due.is("fault(0) at first", x.fault(0), 0);
        Due.is("fault(1) at first", x.fault(1), -1);
        Due.is("about(4) at first", x.about(4), 0);
        Due.is("a law", Due.law(x, "when forced do money 7;when 1 do none;"), 2);
        Due.is("a fault", Due.law(x, "when 1 do back;when 1 do back;when 1 do back;when"), -1);
        Due.is("the tape is empty", x.about(7), 0);
        Due.is("the law stays", x.about(4), 2);
        Due.is("its ruling", x.ruling(0, 0), 3);
        Due.is("its sum", x.sum(0, 0), 7);
        Due.is("fault(0)", x.fault(0), 2);
        Due.is("fault(1)", x.fault(1), 49);
        Due.is("fault(2)", x.fault(2), -1);
        Due.is("fault(-1)", x.fault(-1), -1);
        Due.is("an empty tape is a law", x.law(), 0);
        Due.is("fault(0) is gone", x.fault(0), 0);
        Due.is("fault(1) is gone", x.fault(1), -1);
        Due.is("its ruling", x.ruling(0, 0), 4);
        Due.is("a third law", Due.law(x, "when 0 do other;when 1 do back;"), 2);
        Due.is("its ruling", x.ruling(0, 0), 1);
    }
}
