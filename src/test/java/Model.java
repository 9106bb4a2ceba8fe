import java.util.ArrayDeque;
import java.util.ArrayList;
import java.util.Arrays;
import java.util.Deque;
import java.util.HashMap;
import java.util.LinkedHashMap;
import java.util.List;
import java.util.Map;
import java.util.NoSuchElementException;
import java.util.TreeMap;

/** The document once more, as plainly and slowly as can be, to hold the answers of StormHats against. */
final class Model {
    private static final class Fault extends RuntimeException {
        private static final long serialVersionUID = 1;
        final int code;
        final int place;

        Fault(int code, int place) {
            super("fault", null, false, false);
            this.code = code;
            this.place = place;
        }
    }

    private interface Value {
        int of(Map<String, Integer> facts);
    }

    private record Token(char kind, String text, int place) {
        long number() {
            return text.length() > 15 && !text.substring(0, text.length() - 15).matches("0*") ? Long.MAX_VALUE
                    : Long.parseLong(text.substring(Math.max(0, text.length() - 15)));
        }
    }

    private record Step(String word, int one, int two, List<Step> inner) {
    }

    private static final class Man implements Cloneable {
        boolean dead;
        Integer hat;
        Integer ground;
        int hours;
        int hurt;
        int landed;

        Man copy() {
            try {
                return (Man) clone();
            } catch (CloneNotSupportedException e) {
                throw new IllegalStateException(e);
            }
        }
    }

    private static final class World {
        int hour;
        List<Man> men = new ArrayList<>();
        int[] oil;
        int[] fish;

        World copy() {
            World w = new World();
            w.hour = hour;
            for (Man m : men) {
                w.men.add(m.copy());
            }
            w.oil = oil.clone();
            w.fish = fish.clone();
            return w;
        }
    }

    private record Image(World world, List<World> works) {
    }

    private StringBuilder tape = new StringBuilder();
    private int fault = -1;
    private List<int[]> hats = new ArrayList<>();
    private List<int[]> grounds = new ArrayList<>();
    private List<int[]> men = new ArrayList<>();
    private Value law;
    private Map<Integer, Integer> book = new LinkedHashMap<>();
    private World now;
    private List<World> works = new ArrayList<>();
    private Deque<Image> images = new ArrayDeque<>();
    private int refused;
    private int[] status = new int[2];
    // of the text that is being read
    private List<Token> tokens;
    private int next;

    Model() {
        now = firstDay();
    }

    private World firstDay() {
        World w = new World();
        w.oil = new int[hats.size()];
        w.fish = grounds.stream().mapToInt(g -> g[0]).toArray();
        for (int i = 0; i < men.size(); i++) {
            w.men.add(new Man());
        }
        return w;
    }

    // Texts

    int feed(int... five) {
        if (tape.length() + 20 > 600) {
            return -1;
        }
        for (int v : five) {
            for (int shift = 24; shift >= 0; shift -= 8) {
                tape.append((char) (v >> shift & 255));
            }
        }
        return tape.length();
    }

    private String take(int n, int most) {
        legal(n >= 0 && n <= tape.length() && n <= most);
        String text = tape.substring(0, n);
        tape.setLength(0);
        fault = -1;
        return text;
    }

    private void scan(String text) {
        tokens = new ArrayList<>();
        next = 0;
        int i = 0;
        while (i < text.length()) {
            char c = text.charAt(i);
            int from = i++;
            if (c == ' ') {
                continue;
            }
            if (c >= '0' && c <= '9') {
                while (i < text.length() && text.charAt(i) >= '0' && text.charAt(i) <= '9') {
                    i++;
                }
                tokens.add(new Token('9', text.substring(from, i), from));
            } else if (c >= 'a' && c <= 'z') {
                while (i < text.length() && text.charAt(i) >= 'a' && text.charAt(i) <= 'z') {
                    i++;
                }
                tokens.add(new Token('a', text.substring(from, i), from));
            } else {
                tokens.add(new Token('.', text.substring(from, i), from));
            }
        }
        tokens.add(new Token('$', "", text.length()));
    }

    private Token peek() {
        return tokens.get(next);
    }

    private boolean sees(String text) {
        return peek().kind != '$' && peek().text.equals(text);
    }

    private void must(String text) {
        if (!sees(text)) {
            throw new Fault(1, peek().place);
        }
        next++;
    }

    private int number(int least, int most) {
        Token t = peek();
        if (t.kind != '9') {
            throw new Fault(1, t.place);
        }
        if (t.number() < least || t.number() > most) {
            throw new Fault(2, t.place);
        }
        next++;
        return (int) t.number();
    }

    private int faulty(Fault f) {
        fault = f.place;
        return f.code - 10;
    }

    int coast(int n) {
        scan(take(n, 600));
        List<int[]> h = new ArrayList<>();
        List<int[]> g = new ArrayList<>();
        List<int[]> m = new ArrayList<>();
        try {
            for (int clauses = 1; peek().kind != '$'; clauses++) {
                readClause(clauses, h, g, m);
                must(";");
            }
        } catch (Fault f) {
            return faulty(f);
        }
        hats = h;
        grounds = g;
        men = m;
        law = null;
        book = new LinkedHashMap<>();
        works = new ArrayList<>();
        images = new ArrayDeque<>();
        refused = 0;
        now = firstDay();
        return men.size();
    }

    private void readClause(int clauses, List<int[]> h, List<int[]> g, List<int[]> m) {
        Token t = peek();
        if (!List.of("hat", "ground", "man", "heir").contains(t.text)) {
            throw new Fault(1, t.place);
        }
        if (clauses > 60 || t.text.equals("hat") && h.size() == 8 || t.text.equals("ground") && g.size() == 6
                || t.text.equals("man") && m.size() == 6) {
            throw new Fault(3, t.place);
        }
        next++;
        switch (t.text) {
            case "hat" -> h.add(new int[] {number(1, 12), number(0, 7)});
            case "ground" -> g.add(new int[] {number(0, 999), number(0, 7)});
            case "man" -> m.add(new int[] {number(1, 99), -1});
            default -> {
                int of = number(0, m.size() - 1);
                m.get(of)[1] = number(0, m.size() - 1);
            }
        }
    }

    int law(int n) {
        scan(take(n, 150));
        try {
            Value v = sum(0);
            if (peek().kind != '$') {
                throw new Fault(1, peek().place);
            }
            law = v;
            return 1;
        } catch (Fault f) {
            return faulty(f);
        }
    }

    private Value sum(int open) {
        Value v = product(open);
        while (sees("+") || sees("-")) {
            boolean plus = sees("+");
            next++;
            Value a = v;
            Value b = product(open);
            v = plus ? f -> a.of(f) + b.of(f) : f -> a.of(f) - b.of(f);
        }
        return v;
    }

    private Value product(int open) {
        Value v = unit(open);
        while (sees("*") || sees("/") || sees("%")) {
            String sign = peek().text;
            next++;
            Value a = v;
            Value b = unit(open);
            v = switch (sign) {
                case "*" -> f -> a.of(f) * b.of(f);
                case "/" -> f -> b.of(f) == 0 ? 0 : (int) ((long) a.of(f) / b.of(f));
                default -> f -> b.of(f) == 0 ? 0 : (int) ((long) a.of(f) % b.of(f));
            };
        }
        return v;
    }

    private Value unit(int open) {
        Token t = peek();
        if (t.kind == '9') {
            int c = number(0, 999);
            return f -> c;
        }
        if (List.of("force", "angle", "hours", "boat", "hurt", "fish", "others", "hour").contains(t.text)) {
            next++;
            return f -> f.get(t.text);
        }
        if (!List.of("(", "least", "most").contains(t.text)) {
            throw new Fault(1, t.place);
        }
        if (open == 6) {
            throw new Fault(3, t.place);
        }
        next++;
        if (t.text.equals("(")) {
            Value v = sum(open + 1);
            must(")");
            return v;
        }
        must("[");
        Value a = sum(open + 1);
        must(",");
        Value b = sum(open + 1);
        must("]");
        return t.text.equals("least") ? f -> Math.min(a.of(f), b.of(f)) : f -> Math.max(a.of(f), b.of(f));
    }

    int book(int n) {
        scan(take(n, 60));
        Map<Integer, Integer> fresh = new LinkedHashMap<>();
        try {
            while (peek().kind != '$') {
                Token t = peek();
                int h = number(0, 23);
                if (fresh.containsKey(h)) {
                    throw new Fault(2, t.place);
                }
                if (fresh.size() == 8) {
                    throw new Fault(3, t.place);
                }
                fresh.put(h, number(0, 99));
                must(";");
            }
        } catch (Fault f) {
            return faulty(f);
        }
        book = fresh;
        return book.size();
    }

    int work(int n) {
        String text = take(n, 150);
        if (works.size() == 16) {
            return -20;
        }
        scan(text);
        List<Step> steps;
        try {
            steps = readSteps(0);
            if (peek().kind != '$') {
                throw new Fault(1, peek().place);
            }
        } catch (Fault f) {
            return faulty(f);
        }
        works.add(now.copy());
        int[] tally = new int[3];
        perform(steps, tally);
        refused = tally[2];
        return tally[1];
    }

    private List<Step> readSteps(int open) {
        List<Step> steps = new ArrayList<>();
        while (peek().kind != '$' && !(sees("]"))) {
            steps.add(readStep(open));
            must(";");
        }
        return steps;
    }

    private Step readStep(int open) {
        Token t = peek();
        String words = "wear doff sail home oil die hour again";
        if (t.kind != 'a' || !Arrays.asList(words.split(" ")).contains(t.text)) {
            throw new Fault(1, t.place);
        }
        if (t.text.equals("again") && open == 6) {
            throw new Fault(3, t.place);
        }
        next++;
        int one = switch (t.text) {
            case "hour" -> 0;
            case "again" -> number(0, 30);
            case "oil" -> number(0, hats.size() - 1);
            default -> number(0, men.size() - 1);
        };
        int two = switch (t.text) {
            case "wear" -> number(0, hats.size() - 1);
            case "sail" -> number(0, grounds.size() - 1);
            default -> 0;
        };
        List<Step> inner = null;
        if (t.text.equals("again")) {
            must("[");
            inner = readSteps(open + 1);
            must("]");
        }
        return new Step(t.text, one, two, inner);
    }

    /** tally: begun, done, refused. */
    private void perform(List<Step> steps, int[] tally) {
        for (Step s : steps) {
            if (tally[0] == 200) {
                return;
            }
            tally[0]++;
            if (s.inner != null) {
                for (int i = 0; i < s.one; i++) {
                    perform(s.inner, tally);
                }
            } else {
                tally[can(now, s) ? 1 : 2]++;
            }
        }
    }

    private boolean can(World w, Step s) {
        switch (s.word) {
            case "wear":
                return wear(w, s.one, s.two);
            case "doff":
                boolean wore = w.men.get(s.one).hat != null;
                w.men.get(s.one).hat = null;
                return wore;
            case "sail":
                return sail(w, s.one, s.two);
            case "home":
                return home(w, s.one);
            case "oil":
                if (w.oil[s.one] == 9) {
                    return false;
                }
                w.oil[s.one]++;
                return true;
            case "die":
                return die(w, s.one);
            default:
                if (w.hour >= 900) {
                    return false;
                }
                pass(w);
                return true;
        }
    }

    private static boolean wear(World w, int man, int hat) {
        if (w.men.get(man).dead || wearer(w, hat) != -1) {
            return false;
        }
        w.men.get(man).hat = hat;
        return true;
    }

    private static boolean sail(World w, int man, int ground) {
        Man m = w.men.get(man);
        if (m.dead || m.hat == null || m.ground != null && m.ground == ground) {
            return false;
        }
        m.ground = ground;
        m.hours = 0;
        return true;
    }

    private static boolean home(World w, int man) {
        Man m = w.men.get(man);
        if (m.dead || m.ground == null) {
            return false;
        }
        m.ground = null;
        m.hours = 0;
        return true;
    }

    private boolean die(World w, int man) {
        Man m = w.men.get(man);
        if (m.dead) {
            return false;
        }
        m.dead = true;
        m.ground = null;
        m.hours = 0;
        Integer hat = m.hat;
        m.hat = null;
        int k = men.get(man)[1];
        if (hat != null && k != -1 && !w.men.get(k).dead && w.men.get(k).hat == null) {
            w.men.get(k).hat = hat;
        }
        return true;
    }

    private void pass(World w) {
        int n = men.size();
        int[] seas = new int[n];
        List<Integer> out = new ArrayList<>();
        for (int i = 0; i < n; i++) {
            seas[i] = seaNow(w, i);
            if (w.men.get(i).ground != null) {
                out.add(i);
            }
        }
        for (int i : out) {
            w.men.get(i).hurt += seas[i];
        }
        for (int i : out) {
            if (w.men.get(i).hurt > men.get(i)[0]) {
                die(w, i);
            }
        }
        for (int i : out) {
            Man m = w.men.get(i);
            if (!m.dead) {
                int fish = Math.min(w.fish[m.ground], 9 - seas[i] / 10);
                w.fish[m.ground] -= fish;
                m.landed += fish;
                m.hours++;
            }
        }
        w.hour++;
    }

    private int rough(int... f) {
        String[] names = {"force", "angle", "hours", "boat", "hurt", "fish", "others", "hour"};
        Map<String, Integer> facts = new HashMap<>();
        for (int i = 0; i < 8; i++) {
            facts.put(names[i], f[i]);
        }
        int v = law == null ? f[0] * 3 - f[1] * 4 : law.of(facts);
        return v < 0 ? 0 : v > 99 ? 99 : v;
    }

    private int angle(int hat, int ground) {
        int best = 8;
        for (int turn = 0; turn < 8; turn++) {
            if ((hats.get(hat)[1] + turn) % 8 == grounds.get(ground)[1]) {
                best = Math.min(best, Math.min(turn, 8 - turn));
            }
        }
        return best;
    }

    private int seaNow(World w, int man) {
        Man m = w.men.get(man);
        if (m.ground == null || m.hat == null) {
            return 0;
        }
        int others = 0;
        for (int i = 0; i < men.size(); i++) {
            others += i != man && m.ground.equals(w.men.get(i).ground) ? 1 : 0;
        }
        return rough(hats.get(m.hat)[0] + w.oil[m.hat], angle(m.hat, m.ground), m.hours, men.get(man)[0], m.hurt,
                w.fish[m.ground], others, w.hour);
    }

    private int[] alone(int man, int hat, int ground, int n) {
        int[] seas = new int[n];
        int hurt = now.men.get(man).hurt;
        for (int i = 0; i < n; i++) {
            seas[i] = rough(hats.get(hat)[0] + now.oil[hat], angle(hat, ground), i, men.get(man)[0], hurt,
                    now.fish[ground], 0, now.hour + i);
            hurt += seas[i];
        }
        return seas;
    }

    private static int wearer(World w, int hat) {
        for (int i = 0; i < w.men.size(); i++) {
            if (w.men.get(i).hat != null && w.men.get(i).hat == hat) {
                return i;
            }
        }
        return -1;
    }

    // Refusals

    private void legal(boolean fine) {
        if (!fine) {
            status[1]++;
            throw new IllegalArgumentException();
        }
    }

    private void exists(int i, List<int[]> all) {
        if (i < 0 || i >= all.size()) {
            status[0]++;
            throw new NoSuchElementException();
        }
    }

    private static boolean in(int v, int least, int most) {
        return v >= least && v <= most;
    }

    // Questions

    int fault() {
        return fault;
    }

    int undo() {
        if (works.isEmpty()) {
            return -1;
        }
        // An image may hold the same day.
        now = works.remove(works.size() - 1).copy();
        refused = 0;
        return works.size();
    }

    private static int landed(World w) {
        return w.men.stream().mapToInt(m -> m.landed).sum();
    }

    private static int living(World w) {
        int bits = 0;
        for (int i = 0; i < w.men.size(); i++) {
            bits += w.men.get(i).dead ? 0 : 1 << i;
        }
        return bits;
    }

    private static int worn(World w) {
        int bits = 0;
        for (int h = 0; h < w.oil.length; h++) {
            bits += wearer(w, h) == -1 ? 0 : 1 << h;
        }
        return bits;
    }

    private static int menAt(World w, int ground) {
        int bits = 0;
        for (int i = 0; i < w.men.size(); i++) {
            bits += w.men.get(i).ground != null && w.men.get(i).ground == ground ? 1 << i : 0;
        }
        return bits;
    }

    int told(int what) {
        legal(in(what, 0, 10));
        int sea = 0;
        for (int g = 0; g < grounds.size(); g++) {
            sea |= menAt(now, g);
        }
        return new int[] {hats.size(), grounds.size(), men.size(), now.hour, living(now), sea, worn(now),
                Arrays.stream(now.fish).sum(), landed(now), book.size(), refused}[what];
    }

    int hat(int h, int what) {
        exists(h, hats);
        legal(in(what, 0, 3));
        return new int[] {hats.get(h)[0], hats.get(h)[1], wearer(now, h), now.oil[h]}[what];
    }

    int ground(int g, int what) {
        exists(g, grounds);
        legal(in(what, 0, 3));
        return new int[] {now.fish[g], grounds.get(g)[1], menAt(now, g), grounds.get(g)[0]}[what];
    }

    int man(int m, int what) {
        exists(m, men);
        legal(in(what, 0, 7));
        Man x = now.men.get(m);
        return new int[] {men.get(m)[0], x.hurt, x.hat == null ? -1 : x.hat, x.ground == null ? -1 : x.ground, x.hours,
                x.landed, men.get(m)[1], x.dead ? 0 : 1}[what];
    }

    int sea(int m) {
        exists(m, men);
        return seaNow(now, m);
    }

    int would(int a, int b, int c, int d, int e, int f, int g, int h) {
        legal(in(a, 1, 21) && in(b, 0, 4) && in(c, 0, 999) && in(d, 1, 99) && in(e, 0, 999) && in(f, 0, 999)
                && in(g, 0, 5) && in(h, 0, 900));
        return rough(a, b, c, d, e, f, g, h);
    }

    private static int seen(World w, int what) {
        return new int[] {landed(w), living(w), Arrays.stream(w.fish).sum(), worn(w)}[what];
    }

    int ahead(int n, int what) {
        legal(in(n, 0, 99) && in(what, 0, 2));
        World w = now.copy();
        for (int i = 0; i < n; i++) {
            pass(w);
        }
        return seen(w, what);
    }

    int doom(int m) {
        exists(m, men);
        World w = now.copy();
        for (int i = 0; i <= 200; i++) {
            if (w.men.get(m).dead) {
                return i;
            }
            pass(w);
        }
        return -1;
    }

    int suits(int m, int g, int n, int what) {
        exists(m, men);
        exists(g, grounds);
        legal(in(n, 0, 24) && in(what, 0, 1));
        TreeMap<Integer, Integer> first = new TreeMap<>();
        for (int h = 0; h < hats.size(); h++) {
            if (wearer(now, h) == -1 || wearer(now, h) == m) {
                first.putIfAbsent(Arrays.stream(alone(m, h, g, n)).sum(), h);
            }
        }
        if (first.isEmpty()) {
            return -1;
        }
        return what == 0 ? first.firstEntry().getValue() : first.firstKey();
    }

    /** All ways, the first first: the best is the first of the least. */
    private void ways(int g, int m, int[] way, int sum, int[] best) {
        if (m == men.size()) {
            if (best[0] == -1 || sum < best[0]) {
                best[0] = sum;
                System.arraycopy(way, 0, best, 1, m);
            }
            return;
        }
        way[m] = -1;
        if (now.men.get(m).dead) {
            ways(g, m + 1, way, sum, best);
            return;
        }
        for (int h = 0; h < hats.size(); h++) {
            boolean free = true;
            for (int i = 0; i < m; i++) {
                free &= way[i] != h;
            }
            if (free) {
                way[m] = h;
                ways(g, m + 1, way, sum + price[m][h], best);
            }
        }
    }

    private int[][] price;

    private int[] bestWay(int g) {
        price = new int[men.size()][hats.size()];
        for (int m = 0; m < men.size(); m++) {
            for (int h = 0; h < hats.size(); h++) {
                price[m][h] = alone(m, h, g, 1)[0];
            }
        }
        int[] best = new int[1 + men.size()];
        Arrays.fill(best, -1);
        ways(g, 0, new int[men.size()], 0, best);
        return best;
    }

    int hatted(int g) {
        exists(g, grounds);
        return bestWay(g)[0];
    }

    int given(int g, int m) {
        exists(g, grounds);
        exists(m, men);
        return bestWay(g)[1 + m];
    }

    int line(int m, int n) {
        exists(m, men);
        legal(in(n, 0, 1000000));
        int k = m;
        for (int i = 0; i < n && k != -1; i++) {
            k = men.get(k)[1];
        }
        return k;
    }

    private int steps(int m, int to) {
        int k = m;
        for (int i = 0; i < 50 && k != -1; i++) {
            if (k == to) {
                return i;
            }
            k = men.get(k)[1];
        }
        return -1;
    }

    int meets(int m, int o, int what) {
        exists(m, men);
        exists(o, men);
        legal(in(what, 0, 1));
        TreeMap<Integer, Integer> first = new TreeMap<>();
        for (int t = 0; t < men.size(); t++) {
            if (steps(m, t) != -1 && steps(o, t) != -1) {
                first.putIfAbsent(steps(m, t) + steps(o, t), t);
            }
        }
        if (first.isEmpty()) {
            return -1;
        }
        return what == 0 ? first.firstEntry().getValue() : first.firstKey();
    }

    private List<int[]> pairs(int m) {
        List<int[]> found = new ArrayList<>();
        for (int h = 0; h < hats.size(); h++) {
            for (int g = 0; g < grounds.size(); g++) {
                int[] seas = alone(m, h, g, 24);
                boolean right = true;
                for (Map.Entry<Integer, Integer> e : book.entrySet()) {
                    right &= seas[e.getKey()] == e.getValue();
                }
                if (right) {
                    int[] pair = Arrays.copyOf(seas, 25);
                    pair[24] = 10 * h + g;
                    found.add(pair);
                }
            }
        }
        return found;
    }

    int fits(int m, int what) {
        exists(m, men);
        legal(in(what, 0, 1));
        List<int[]> p = pairs(m);
        return what == 0 ? p.size() : p.isEmpty() ? -1 : p.get(0)[24];
    }

    int look(int m, int what) {
        exists(m, men);
        legal(in(what, 0, 1));
        List<int[]> p = pairs(m);
        TreeMap<Integer, Integer> first = new TreeMap<>();
        for (int h = 0; h < 24; h++) {
            if (!book.containsKey(h)) {
                int worst = 0;
                for (int v = 0; v <= 99; v++) {
                    int alike = 0;
                    for (int[] pair : p) {
                        alike += pair[h] == v ? 1 : 0;
                    }
                    worst = Math.max(worst, alike);
                }
                first.putIfAbsent(worst, h);
            }
        }
        return what == 0 ? first.firstEntry().getValue() : first.firstKey();
    }

    int fleet(int g, int n) {
        exists(g, grounds);
        legal(in(n, 0, 99));
        for (int many = 0; many <= men.size(); many++) {
            for (int bits = 0; bits < 1 << men.size(); bits++) {
                int sum = 0;
                boolean able = Integer.bitCount(bits) == many;
                for (int m = 0; m < men.size(); m++) {
                    if ((bits >> m & 1) == 1) {
                        Man x = now.men.get(m);
                        able &= !x.dead && x.hat != null;
                        sum += able ? 9 - alone(m, x.hat, g, 1)[0] / 10 : 0;
                    }
                }
                if (able && sum >= n) {
                    return bits;
                }
            }
        }
        return -1;
    }

    long squall(int q, int n, int part) {
        legal(in(q, 0, 16) && in(n, 0, 12) && in(part, 0, 1));
        java.math.BigInteger above = java.math.BigInteger.valueOf(16 - q).pow(n);
        if (n > 0) {
            above = above.add(java.math.BigInteger.valueOf((long) n * q)
                    .multiply(java.math.BigInteger.valueOf(16 - q).pow(n - 1)));
        }
        java.math.BigInteger below = java.math.BigInteger.valueOf(16).pow(n);
        java.math.BigInteger d = above.gcd(below);
        return (part == 0 ? above : below).divide(d).longValueExact();
    }

    int two(int v, int w, int what) {
        legal(in(v, 0, 99) && in(w, 0, 99) && in(what, 0, 2));
        int[][] mine = {{v, w}, {v / 2, w}};
        int rests = 0;
        int first = -1;
        int both = 0;
        for (int a = 1; a >= 0; a--) {
            for (int b = 1; b >= 0; b--) {
                if (mine[1 - a][b] <= mine[a][b] && mine[1 - b][a] <= mine[b][a]) {
                    rests++;
                    first = 10 * a + b;
                    both = mine[a][b] + mine[b][a];
                }
            }
        }
        return new int[] {rests, first, both}[what];
    }

    int share(int m, int bits, int n) {
        exists(m, men);
        legal(bits >= 0 && bits < 1 << men.size() && in(n, 0, 9999));
        int bound = 0;
        for (int b = 0; b <= 6000; b++) {
            int sum = 0;
            for (int i = 0; i < men.size(); i++) {
                sum += (bits >> i & 1) == 1 ? Math.min(b, now.men.get(i).landed) : 0;
            }
            bound = sum <= n ? b : bound;
        }
        return (bits >> m & 1) == 1 ? Math.min(bound, now.men.get(m).landed) : 0;
    }

    int best(int what) {
        legal(in(what, 0, 1));
        int most = now.men.stream().mapToInt(x -> x.landed).max().orElse(0);
        if (most == 0) {
            return -1;
        }
        int first = 0;
        while (now.men.get(first).landed != most) {
            first++;
        }
        return what == 0 ? first : most;
    }

    int from(int side) {
        legal(in(side, 0, 7));
        int bits = 0;
        for (int h = 0; h < hats.size(); h++) {
            bits += hats.get(h)[1] == side ? 1 << h : 0;
        }
        return bits;
    }

    int row(int m) {
        exists(m, men);
        List<Integer> seen = new ArrayList<>();
        int k = m;
        while (k != -1 && !seen.contains(k)) {
            seen.add(k);
            k = men.get(k)[1];
        }
        return seen.size() - 1;
    }

    private World seasoned(int seed, int q, int hours) {
        World w = now.copy();
        int[] s = {seed};
        for (int i = 0; i < hours; i++) {
            if (!men.isEmpty() && !hats.isEmpty() && !grounds.isEmpty()) {
                int m = draw(s, men.size());
                int h = draw(s, hats.size());
                int g = draw(s, grounds.size());
                wear(w, m, h);
                sail(w, m, g);
                if (draw(s, 16) < q) {
                    home(w, m);
                }
            }
            pass(w);
        }
        return w;
    }

    private static int draw(int[] s, int by) {
        long next = ((s[0] & 0xFFFFFFFFL) * 1103515245L + 12345L) & 0xFFFFFFFFL;
        s[0] = (int) next;
        return (int) (next / 65536 % 32768 % by);
    }

    int season(int seed, int q, int hours, int what) {
        legal(in(q, 0, 16) && in(hours, 1, 96) && in(what, 0, 3));
        return seen(seasoned(seed, q, hours), what);
    }

    int span(int seed, int many, int q, int hours, int what) {
        legal(in(many, 1, 20) && in(q, 0, 16) && in(hours, 1, 96) && in(what, 0, 2));
        int least = Integer.MAX_VALUE;
        int most = 0;
        int all = 0;
        for (int i = 0; i < many; i++) {
            World w = seasoned(seed + i, q, hours);
            least = Math.min(least, landed(w));
            most = Math.max(most, landed(w));
            all += (living(now) & ~living(w)) == 0 ? 1 : 0;
        }
        return new int[] {least, most, all}[what];
    }

    int image() {
        if (images.size() == 3) {
            return -1;
        }
        images.push(new Image(now.copy(), new ArrayList<>(works)));
        return images.size();
    }

    int restore() {
        if (images.isEmpty()) {
            return -1;
        }
        Image i = images.pop();
        now = i.world;
        works = i.works;
        refused = 0;
        return images.size();
    }

    int status(int what) {
        return in(what, 0, 1) ? status[what] : -1;
    }

    int count(int what) {
        return in(what, 0, 2) ? new int[] {images.size(), tape.length(), works.size()}[what] : -1;
    }
}
