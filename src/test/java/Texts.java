/** Laws that are read on a new object: right ones, and ones with a fault. */
final class Texts {
    private Texts() {
    }

    static void good(String text, int lines) {
        HomeRoll x = new HomeRoll();
        Due.is("law of: " + text, Due.law(x, text), lines);
        Due.is("fault of: " + text, x.fault(0), 0);
        Due.is("place in: " + text, x.fault(1), -1);
        Due.is("lines of: " + text, x.about(4), lines);
    }

    static void bad(String text, int fault, int place) {
        HomeRoll x = new HomeRoll();
        Due.is("law of: " + text, Due.law(x, text), -1);
        Due.is("fault of: " + text, x.fault(0), fault);
        Due.is("place in: " + text, x.fault(1), place);
        Due.is("lines of: " + text, x.about(4), 0);
    }
}
