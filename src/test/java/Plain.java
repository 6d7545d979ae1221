import java.math.BigInteger;
import java.nio.charset.StandardCharsets;
import java.util.ArrayList;
import java.util.HashMap;
import java.util.List;
import java.util.Map;
import java.util.function.ToIntFunction;
import java.util.regex.Matcher;
import java.util.regex.Pattern;

/** A second program for the same document, slow and plain, to hold the first one against. */
final class Plain {
    record Paper(int house, int from, int to, int day, int sort, int price, int found, Integer[] falseDay) {
        boolean counts(int k) {
            return found <= k && (falseDay[0] == null || falseDay[0] > k);
        }
    }

    record Line(ToIntFunction<int[]> e, int ruling, int percent) {
    }

    static final class Fault extends RuntimeException {
        private static final long serialVersionUID = 1;
        final int number;
        final int place;

        Fault(int number, int place) {
            this.number = number;
            this.place = place;
        }
    }

    private final List<int[]> parents = new ArrayList<>();
    private final Map<Integer, Integer> deaths = new HashMap<>();
    private final List<int[]> houses = new ArrayList<>();
    private final Map<Integer, Integer> levels = new HashMap<>();
    private final List<Paper> papers = new ArrayList<>();
    private final List<Integer> claims = new ArrayList<>();
    private final Map<Integer, Integer> wants = new HashMap<>();
    private int told = 0;
    private int today = 0;
    private String tape = "";
    private List<Line> law = new ArrayList<>();
    private int fault = 0;
    private int place = -1;

    long answer(String call, int... a) {
        switch (call) {
            case "person": return person(a[0], a[1]);
            case "dead": return dead(a[0], a[1]) ? 1 : 0;
            case "house": return house(a[0], a[1]);
            case "level": return level(a[0], a[1]) ? 1 : 0;
            case "money": return money(a[0], a[1], a[2]);
            case "paper": return paper(a[0], a[1], a[2], a[3], a[4], a[5]);
            case "isFalse": return isFalse(a[0]) ? 1 : 0;
            case "later": return later(a[0]);
            case "holder": return in(a[0], houses.size()) ? trail(a[0], a[1], a[2], null) : -1;
            case "loose": return loose(a[0], a[1]);
            case "feed": return feed(a);
            case "end": return end(a[0]);
            case "law": return law();
            case "fault": return a[0] == 0 ? fault : a[0] == 1 ? place : -1;
            case "claim": return claim(a[0]);
            case "ruling": return ruling(a[0], a[1])[0];
            case "sum": return ruling(a[0], a[1])[1];
            case "term": return term(a[0], a[1], a[2]);
            case "share": return share(a[0], a[1], a[2], a[3]);
            case "want": return want(a[0], a[1], a[2]);
            case "joy": return best()[houses.size()];
            case "swap": return in(a[0], houses.size()) ? best()[a[0]] : -1;
            case "about": return about(a[0]);
            default: throw new IllegalArgumentException(call);
        }
    }

    private static boolean in(int number, int count) {
        return number >= 0 && number < count;
    }

    private int person(int mother, int father) {
        int n = parents.size();
        boolean fine = n < 24 && (mother == -1 || in(mother, n)) && (father == -1 || in(father, n));
        if (fine) {
            parents.add(new int[] {mother, father});
        }
        return fine ? n : -1;
    }

    private boolean dead(int person, int day) {
        return in(person, parents.size()) && in(day, 36500) && deaths.putIfAbsent(person, day) == null;
    }

    private boolean isDead(int person, int day) {
        return deaths.containsKey(person) && deaths.get(person) <= day;
    }

    private int house(int holder, int worth) {
        if (houses.size() == 8 || !in(holder, parents.size()) || !in(worth, 1000001)) {
            return -1;
        }
        houses.add(new int[] {holder, worth});
        return houses.size() - 1;
    }

    private boolean level(int year, int level) {
        boolean fine = in(year, 100) && in(level - 1, 10000);
        if (fine) {
            levels.put(year, level);
        }
        return fine;
    }

    private long money(int sum, int from, int to) {
        if (!in(sum, 1000001) || !in(from, 100) || !in(to, 100)) {
            return -1;
        }
        return (long) sum * levels.getOrDefault(to, 100) / levels.getOrDefault(from, 100);
    }

    private int paper(int house, int from, int to, int day, int sort, int price) {
        boolean fine = papers.size() < 60 && in(house, houses.size()) && in(from, parents.size());
        fine = fine && in(to, parents.size()) && from != to && in(day, today + 1) && in(sort, 3) && in(price, 1000001);
        if (fine) {
            papers.add(new Paper(house, from, to, day, sort, price, today, new Integer[1]));
        }
        return fine ? papers.size() - 1 : -1;
    }

    private boolean isFalse(int paper) {
        if (!in(paper, papers.size()) || papers.get(paper).falseDay()[0] != null) {
            return false;
        }
        papers.get(paper).falseDay()[0] = today;
        return true;
    }

    private int later(int days) {
        if (!in(days, 1001) || today + days > 36499) {
            return -1;
        }
        return today += days;
    }

    /** Who holds a house at the end of a day; the papers that moved it come into a list, if there is one. */
    private int trail(int house, int d, int k, List<Paper> moved) {
        int holder = houses.get(house)[0];
        List<Paper> sorted = new ArrayList<>(papers);
        sorted.sort((p, q) -> Integer.compare(p.day(), q.day()));
        for (Paper p : sorted) {
            if (p.house() == house && p.counts(k) && p.day() <= d && p.from() == holder) {
                holder = p.to();
                if (moved != null) {
                    moved.add(p);
                }
            }
        }
        return holder;
    }

    private int loose(int paper, int k) {
        if (!in(paper, papers.size()) || !papers.get(paper).counts(k)) {
            return -1;
        }
        return place(movedOf(papers.get(paper).house(), k), papers.get(paper)) < 0 ? 1 : 0;
    }

    private List<Paper> movedOf(int house, int k) {
        List<Paper> moved = new ArrayList<>();
        trail(house, k, k, moved);
        return moved;
    }

    private static int place(List<Paper> list, Paper paper) {
        for (int i = 0; i < list.size(); i++) {
            if (list.get(i) == paper) {
                return i;
            }
        }
        return -1;
    }

    private int feed(int[] numbers) {
        if (tape.length() > 580) {
            return -1;
        }
        for (int number : numbers) {
            byte[] bytes = java.nio.ByteBuffer.allocate(4).putInt(number).array();
            tape += new String(bytes, StandardCharsets.ISO_8859_1);
        }
        return tape.length();
    }

    private int end(int n) {
        if (n < 0 || n > tape.length()) {
            return -1;
        }
        tape = tape.substring(0, n);
        return n;
    }

    private int claim(int paper) {
        if (!in(paper, papers.size()) || claims.contains(paper) || claims.size() == 30) {
            return -1;
        }
        claims.add(paper);
        return claims.size() - 1;
    }

    private int[] terms(int claim, int k) {
        if (!in(claim, claims.size()) || loose(claims.get(claim), k) != 0) {
            return null;
        }
        Paper p = papers.get(claims.get(claim));
        List<Paper> moved = movedOf(p.house(), k);
        int at = place(moved, p);
        int since = 0;
        for (int i = 0; i < at; i++) {
            since = moved.get(i).to() == p.from() ? moved.get(i).day() : since;
        }
        long price = Math.min(Integer.MAX_VALUE, money(p.price(), p.day() / 365, 99));
        return new int[] {p.sort() == 1 ? 1 : 0, p.sort() == 2 ? 1 : 0, (int) price, houses.get(p.house())[1],
            p.day() / 365, (p.day() - since) / 365, moved.size() - at - 1,
            trail(p.house(), k, k, null) == p.to() ? 1 : 0, isDead(p.from(), k) ? 1 : 0};
    }

    private int term(int claim, int term, int k) {
        int[] terms = terms(claim, k);
        return terms == null || !in(term, 9) ? -1 : terms[term];
    }

    private int[] ruling(int claim, int k) {
        int[] terms = terms(claim, k);
        if (terms == null) {
            return new int[] {-1, -1};
        }
        for (Line line : law) {
            if (line.e().applyAsInt(terms) != 0) {
                return new int[] {line.ruling(), line.ruling() == 3 ? terms[3] * line.percent() / 100 : 0};
            }
        }
        return new int[] {4, 0};
    }

    private long share(int of, int person, int day, int part) {
        if (!in(of, parents.size()) || !in(person, parents.size()) || !in(day, 36500) || !in(part, 2)) {
            return -1;
        }
        BigInteger[] fraction = part(of, person, day);
        return fraction[part].longValueExact();
    }

    private boolean hasHeirs(int person, int day) {
        return !isDead(person, day) || !heirs(person, day).isEmpty();
    }

    private List<Integer> heirs(int person, int day) {
        List<Integer> heirs = new ArrayList<>();
        for (int child = 0; child < parents.size(); child++) {
            int[] p = parents.get(child);
            if ((p[0] == person || p[1] == person) && hasHeirs(child, day)) {
                heirs.add(child);
            }
        }
        return heirs;
    }

    private BigInteger[] part(int of, int person, int day) {
        BigInteger[] none = {BigInteger.ZERO, BigInteger.ONE};
        if (!isDead(of, day)) {
            return of == person ? new BigInteger[] {BigInteger.ONE, BigInteger.ONE} : none;
        }
        List<Integer> heirs = heirs(of, day);
        BigInteger top = none[0];
        BigInteger bottom = none[1];
        for (int heir : heirs) {
            BigInteger[] one = part(heir, person, day);
            BigInteger below = one[1].multiply(BigInteger.valueOf(heirs.size()));
            top = top.multiply(below).add(one[0].multiply(bottom));
            bottom = bottom.multiply(below);
            BigInteger common = top.gcd(bottom);
            top = top.divide(common);
            bottom = bottom.divide(common);
        }
        return new BigInteger[] {top, bottom};
    }

    private int want(int house, int other, int joy) {
        boolean fine = in(house, houses.size()) && in(other, houses.size()) && house != other;
        if (!fine || !in(joy, 1001) || told == 40) {
            return -1;
        }
        wants.put(house * 8 + other, joy);
        return ++told;
    }

    /** What is given for each house by the best swap, and its joy behind them. */
    private int[] best() {
        int n = houses.size();
        int[] best = new int[n + 1];
        best[n] = -1;
        trySwaps(new int[n], 0, 0, best);
        return best;
    }

    /** In order of what is given, so that a later one must be better to come first. */
    private void trySwaps(int[] given, int house, int joy, int[] best) {
        if (house == given.length) {
            if (joy > best[house]) {
                System.arraycopy(given, 0, best, 0, house);
                best[house] = joy;
            }
            return;
        }
        for (int other = 0; other < given.length; other++) {
            boolean free = true;
            for (int i = 0; i < house; i++) {
                free &= given[i] != other;
            }
            int more = house == other ? 0 : wants.getOrDefault(house * 8 + other, 0);
            if (free && (house == other || more > 0)) {
                given[house] = other;
                trySwaps(given, house + 1, joy + more, best);
            }
        }
    }

    private int about(int what) {
        int[] all = {parents.size(), houses.size(), papers.size(), today, law.size(), claims.size(), told, tape.length()};
        return in(what, all.length) ? all[what] : -1;
    }

    // The law: its text is cut into tokens ahead, and each part of it becomes a function of the terms.

    private static final List<String> TERMS =
        List.of("forced", "given", "price", "worth", "year", "held", "hands", "lives", "dead");
    private static final Pattern TOKEN = Pattern.compile("[ \n]*([a-z]+|[0-9]+[a-z]?|[;()<>=+-]|[^ \n])", Pattern.DOTALL);
    private static final Pattern GOOD = Pattern.compile("[a-z]{1,8}|[0-9]{1,7}|[;()<>=+-]");

    private final List<String> tokens = new ArrayList<>();
    private final List<Integer> places = new ArrayList<>();
    private int at;
    private int terms;

    private int law() {
        String text = tape;
        tape = "";
        fault = 0;
        place = -1;
        try {
            law = readLaw(text);
            return law.size();
        } catch (Fault f) {
            fault = f.number;
            place = f.place;
            return -1;
        }
    }

    private List<Line> readLaw(String text) {
        tokens.clear();
        places.clear();
        Matcher matcher = TOKEN.matcher(text);
        while (matcher.find()) {
            tokens.add(matcher.group(1));
            places.add(matcher.start(1));
        }
        tokens.add("");
        places.add(text.length());
        at = 0;
        terms = 0;
        List<Line> lines = new ArrayList<>();
        while (!peek().isEmpty()) {
            if (lines.size() == 16) {
                throw wrong();
            }
            lines.add(readLine());
        }
        return lines;
    }

    private String peek() {
        String token = tokens.get(at);
        if (!token.isEmpty() && !GOOD.matcher(token).matches()) {
            throw new Fault(1, places.get(at));
        }
        return token;
    }

    private Fault wrong() {
        peek();
        return new Fault(2, places.get(at));
    }

    private boolean take(String token) {
        boolean is = peek().equals(token);
        at += is ? 1 : 0;
        return is;
    }

    private void must(String token) {
        if (!take(token)) {
            throw wrong();
        }
    }

    private Line readLine() {
        must("when");
        ToIntFunction<int[]> e = readE(0);
        must("do");
        int ruling = 1 + List.of("back", "other", "money", "none").indexOf(peek());
        if (ruling == 0) {
            throw wrong();
        }
        at++;
        int percent = 0;
        if (ruling == 3) {
            if (!peek().matches("[0-9]+")) {
                throw wrong();
            }
            percent = Integer.parseInt(peek());
            if (percent > 100) {
                throw new Fault(3, places.get(at));
            }
            at++;
        }
        must(";");
        return new Line(e, ruling, percent);
    }

    private ToIntFunction<int[]> readE(int depth) {
        ToIntFunction<int[]> left = readBoth(depth);
        while (take("or")) {
            ToIntFunction<int[]> a = left;
            ToIntFunction<int[]> b = readBoth(depth);
            left = t -> a.applyAsInt(t) != 0 || b.applyAsInt(t) != 0 ? 1 : 0;
        }
        return left;
    }

    private ToIntFunction<int[]> readBoth(int depth) {
        ToIntFunction<int[]> left = readOne(depth);
        while (take("and")) {
            ToIntFunction<int[]> a = left;
            ToIntFunction<int[]> b = readOne(depth);
            left = t -> a.applyAsInt(t) != 0 && b.applyAsInt(t) != 0 ? 1 : 0;
        }
        return left;
    }

    private ToIntFunction<int[]> readOne(int depth) {
        if (depth == 6) {
            throw wrong();
        }
        if (take("not")) {
            ToIntFunction<int[]> one = readOne(depth + 1);
            return t -> one.applyAsInt(t) == 0 ? 1 : 0;
        }
        if (take("(")) {
            ToIntFunction<int[]> e = readE(depth + 1);
            must(")");
            return e;
        }
        ToIntFunction<int[]> a = readSum();
        String sign = peek();
        if (!sign.matches("[<>=]")) {
            return a;
        }
        at++;
        ToIntFunction<int[]> b = readSum();
        return t -> {
            int compared = Integer.compare(a.applyAsInt(t), b.applyAsInt(t));
            return compared == (sign.equals("<") ? -1 : sign.equals("=") ? 0 : 1) ? 1 : 0;
        };
    }

    private ToIntFunction<int[]> readSum() {
        ToIntFunction<int[]> left = readTerm();
        while (peek().matches("[+-]")) {
            int sign = tokens.get(at++).equals("+") ? 1 : -1;
            ToIntFunction<int[]> a = left;
            ToIntFunction<int[]> b = readTerm();
            left = t -> a.applyAsInt(t) + sign * b.applyAsInt(t);
        }
        return left;
    }

    private ToIntFunction<int[]> readTerm() {
        String token = peek();
        int term = TERMS.indexOf(token);
        boolean isNumber = token.matches("[0-9]+");
        if (term < 0 && !isNumber || ++terms > 80) {
            throw wrong();
        }
        at++;
        int number = isNumber ? Integer.parseInt(token) : 0;
        return isNumber ? t -> number : t -> t[term];
    }
}
