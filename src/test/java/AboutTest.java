/** Promises 1 and 24: a new object, and what there is. */
public final class AboutTest {
    public static void main(String[] args) {
        HomeRoll x = new HomeRoll();
        about(x, 0, 0, 0, 0, 0, 0, 0, 0);
        Due.is("holder", x.holder(0, 0, 0), -1);
        Due.is("loose", x.loose(0, 0), -1);
        Due.is("ruling", x.ruling(0, 0), -1);
        Due.is("share", x.share(0, 0, 0, 0), -1);
        Due.is("fault(0)", x.fault(0), 0);
        Due.is("fault(1)", x.fault(1), -1);
        Due.is("joy", x.joy(), 0);
        Due.is("money", x.money(5, 0, 99), 5);
        x.person(-1, -1);
        x.person(-1, -1);
        x.person(-1, -1);
        x.house(0, 1);
        x.house(0, 1);
        x.later(9);
        x.paper(0, 0, 1, 1, 1, 1);
        x.claim(0);
        Due.law(x, "when 1 do back;when 2 do back;when 3 do back;when 4 do back;");
        x.want(0, 1, 5);
        x.feed(0, 0, 0, 0, 0);
        about(x, 3, 2, 1, 9, 4, 1, 1, 20);
        about(new HomeRoll(), 0, 0, 0, 0, 0, 0, 0, 0);
        Due.end("AboutTest");
    }

    private static void about(HomeRoll x, int... due) {
        for (int what = 0; what < due.length; what++) {
            Due.is("about(" + what + ")", x.about(what), due[what]);
        }
        Due.is("about(8)", x.about(8), -1);
        Due.is("about(-1)", x.about(-1), -1);
        Due.is("about(least)", x.about(Integer.MIN_VALUE), -1);
    }
}
