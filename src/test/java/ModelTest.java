import java.util.NoSuchElementException;
import java.util.Random;

/** Runs of calls drawn by seeds, each answer held against that of the Model. */
public final class ModelTest {
    private static final int RUNS = 3000;
    private static final int CALLS = 300;
    // One run of so many goes on near the last HOUR.
    private static final int LONG_RUNS = 10;

    private final Random dice;
    private final StormHats x = new StormHats();
    private final Model y = new Model();
    private String called = "";
    private boolean strayed;

    private ModelTest(long seed) {
        dice = new Random(seed);
    }

    public static void main(String[] args) {
        int wrong = 0;
        for (int run = 0; run < RUNS && wrong < 5; run++) {
            wrong += new ModelTest(run).differs(run) ? 1 : 0;
        }
        System.out.println(RUNS + " runs, " + wrong + " not as due");
        if (wrong != 0) {
            System.exit(1);
        }
    }

    private boolean differs(int run) {
        boolean longRun = run % LONG_RUNS == 0;
        for (int i = 0; i < CALLS; i++) {
            if (i == 0 || !longRun && to(40) == 0) {
                put(coastText());
                int n = tapeLength();
                strayed |= same(() -> x.coast(n), () -> y.coast(n), "coast", run);
                strayed |= longRun && passManyHours(run);
            } else {
                strayed |= step(run);
            }
            if (strayed) {
                return true;
            }
        }
        return false;
    }

    /** Up to the last HOUR or close by: WORKS of some 190 HOURS, as many as can be undone, or few enough for some more. */
    private boolean passManyHours(int run) {
        boolean differs = false;
        for (int i = 4 + to(13); i > 0; i--) {
            put("again 30[again 30[hour;];];");
            int n = tapeLength();
            differs |= same(() -> x.work(n), () -> y.work(n), "work", run);
        }
        return differs;
    }

    private interface Call {
        long answer();
    }

    private static String answerOf(Call call) {
        try {
            return Long.toString(call.answer());
        } catch (NoSuchElementException e) {
            return "missing";
        } catch (IllegalArgumentException e) {
            return e.getClass() == IllegalArgumentException.class ? "illegal" : e.toString();
        } catch (RuntimeException e) {
            return e.toString();
        }
    }

    private boolean same(Call one, Call two, String name, int run) {
        String got = answerOf(one);
        String want = answerOf(two);
        if (!got.equals(want)) {
            System.out.println("run " + run + ": " + name + " " + called + " answered " + got + ", due is " + want);
            return true;
        }
        return false;
    }

    private int to(int n) {
        return dice.nextInt(n);
    }

    /** Mostly 0 to most, now and then just beside, or far away. */
    private int near(int most) {
        if (to(120) == 0) {
            return to(2) == 0 ? Integer.MIN_VALUE + to(3) : Integer.MAX_VALUE - to(3);
        }
        return to(30) == 0 ? to(2) * (most + 2) - 1 : to(most + 1);
    }

    private int length;

    private int tapeLength() {
        return to(40) == 0 ? to(700) - 50 : length;
    }

    private void put(String text) {
        if (to(12) == 0) {
            text = spoilt(text);
        }
        if (to(4) != 0 || x.count(1) != 0) {
            // Nothing older stays ahead of the text: a law of no bytes takes it away.
            strayed |= same(() -> x.law(0), () -> y.law(0), "law without bytes", 0);
        }
        called = text;
        length = text.length();
        for (int i = 0; i < text.length(); i += 20) {
            int[] five = new int[5];
            for (int j = 0; j < 20; j++) {
                five[j / 4] = five[j / 4] << 8 | (i + j < text.length() ? text.charAt(i + j) & 255 : 0);
            }
            strayed |= same(() -> x.feed(five[0], five[1], five[2], five[3], five[4]), () -> y.feed(five), "feed", 0);
        }
    }

    private String spoilt(String text) {
        StringBuilder b = new StringBuilder(text);
        String signs = " ;[](),+-*/%019azhour\u0000\u00ff";
        for (int i = to(3); i >= 0; i--) {
            int place = to(b.length() + 1);
            char sign = signs.charAt(to(signs.length()));
            int way = to(4);
            if (way == 0 || b.length() == 0 || place == b.length()) {
                b.insert(place, sign);
            } else if (way == 1) {
                b.deleteCharAt(place);
            } else if (way == 2) {
                b.setCharAt(place, sign);
            } else {
                b.setLength(place);
            }
        }
        return b.toString();
    }

    private String gap() {
        return to(8) == 0 ? " ".repeat(to(3)) : "";
    }

    private String coastText() {
        StringBuilder b = new StringBuilder();
        int hats = to(10) == 0 ? to(10) : 2 + to(6);
        int grounds = to(10) == 0 ? to(8) : 1 + to(4);
        int men = to(10) == 0 ? to(8) : 1 + to(6);
        for (int i = 0; i < hats; i++) {
            b.append("hat ").append(1 + to(12)).append(gap()).append(' ').append(to(8)).append(gap()).append(';');
        }
        for (int i = 0; i < grounds; i++) {
            b.append(gap()).append("ground").append(to(3) == 0 ? to(20) : to(300)).append(' ').append(to(8)).append(';');
        }
        for (int i = 0; i < men; i++) {
            b.append("man ").append(to(3) == 0 ? 1 + to(99) : 60 + to(40)).append(';').append(gap());
        }
        for (int i = men == 0 ? 0 : to(8); i > 0; i--) {
            b.append("heir ").append(to(men)).append(' ').append(to(men)).append(';');
        }
        return b.length() > 600 ? b.substring(0, 600) : b.toString();
    }

    private String lawText(int depth) {
        String[] facts = {"force", "angle", "hours", "boat", "hurt", "fish", "others", "hour"};
        int way = to(depth <= 0 ? 3 : 12);
        if (way <= 1) {
            return gap() + facts[to(8)];
        }
        if (way == 2) {
            return gap() + to(to(20) == 0 ? 1002 : 20);
        }
        if (way == 3) {
            return "(" + lawText(depth - 1) + gap() + ")";
        }
        if (way == 4 || way == 5) {
            return (way == 4 ? "least" : "most") + gap() + "[" + lawText(depth - 1) + "," + lawText(depth - 1) + "]";
        }
        return lawText(depth - 1) + gap() + "+-*/%%*-".charAt(to(8)) + lawText(depth - 1);
    }

    private String stepText(int depth) {
        int men = Math.max(1, x.told(2));
        int hats = Math.max(1, x.told(0));
        int grounds = Math.max(1, x.told(1));
        switch (to(depth <= 0 ? 14 : 16)) {
            case 0:
                return "doff " + to(men);
            case 1:
                return "home " + to(men);
            case 2:
                return "oil" + gap() + to(hats);
            case 3:
                return to(3) == 0 ? "die " + to(men) : "hour";
            case 4:
            case 5:
            case 6:
            case 7:
                return "wear " + to(men) + " " + near(hats - 1);
            case 8:
            case 9:
            case 10:
            case 11:
                return "sail " + to(men) + " " + to(grounds);
            case 12:
            case 13:
                return "hour";
            default:
                return "again " + (to(4) == 0 ? to(31) : to(4)) + gap() + "[" + stepsText(depth - 1, 3) + gap() + "]";
        }
    }

    private String stepsText(int depth, int most) {
        StringBuilder b = new StringBuilder();
        for (int i = to(most + 1); i > 0; i--) {
            b.append(stepText(depth)).append(gap()).append(';');
        }
        return b.toString();
    }

    private String bookText() {
        StringBuilder b = new StringBuilder();
        int man = x.told(2) == 0 ? 0 : to(x.told(2));
        for (int i = to(to(5) == 0 ? 10 : 3); i > 0; i--) {
            int hour = to(24);
            int rough = to(3) == 0 || x.told(2) * x.told(1) * x.told(0) == 0 ? to(100)
                    : hour == 0 ? x.suits(man, to(x.told(1)), 1, 1)
                    : x.suits(man, 0, hour + 1, 1) - x.suits(man, 0, hour, 1);
            b.append(hour).append(' ').append(Math.max(0, rough)).append(';');
        }
        return b.toString();
    }

    private boolean step(int run) {
        int way = to(100);
        if (way < 12) {
            String text = stepsText(3, 14);
            put(text.length() > 150 ? text.substring(0, text.lastIndexOf(';', 149) + 1) : text);
            int n = tapeLength();
            return same(() -> x.work(n), () -> y.work(n), "work", run);
        }
        if (way < 15) {
            String text = lawText(1 + to(7));
            put(text.length() > 150 ? "hour*7%50+force" : text);
            int n = tapeLength();
            return same(() -> x.law(n), () -> y.law(n), "law", run);
        }
        if (way < 18) {
            put(bookText());
            int n = tapeLength();
            return same(() -> x.book(n), () -> y.book(n), "book", run);
        }
        return way < 60 ? askTold(run) : askAhead(run);
    }

    private boolean askTold(int run) {
        int hat = near(Math.max(0, x.told(0) - 1));
        int ground = near(Math.max(0, x.told(1) - 1));
        int man = near(Math.max(0, x.told(2) - 1));
        int other = near(Math.max(0, x.told(2) - 1));
        called = hat + " " + ground + " " + man + " " + other;
        switch (to(14)) {
            case 0:
                return same(x::fault, y::fault, "fault", run);
            case 1:
                return to(2) == 0 && same(x::undo, y::undo, "undo", run);
            case 2:
                return to(2) == 0 && same(x::image, y::image, "image", run);
            case 3:
                return to(2) == 0 && same(x::restore, y::restore, "restore", run);
            case 4:
            case 5: {
                int what = near(10);
                return same(() -> x.told(what), () -> y.told(what), "told " + what, run);
            }
            case 6: {
                int what = near(3);
                return same(() -> x.hat(hat, what), () -> y.hat(hat, what), "hat " + what, run);
            }
            case 7: {
                int what = near(3);
                return same(() -> x.ground(ground, what), () -> y.ground(ground, what), "ground " + what, run);
            }
            case 8:
            case 9: {
                int what = near(7);
                return same(() -> x.man(man, what), () -> y.man(man, what), "man " + what, run);
            }
            case 10:
                return same(() -> x.sea(man), () -> y.sea(man), "sea", run);
            case 11: {
                int what = near(1);
                return same(() -> x.status(what), () -> y.status(what), "status " + what, run);
            }
            case 12: {
                int what = near(2);
                return same(() -> x.count(what), () -> y.count(what), "count " + what, run);
            }
            default:
                return same(() -> x.row(man), () -> y.row(man), "row", run);
        }
    }

    private boolean askAhead(int run) {
        int ground = near(Math.max(0, x.told(1) - 1));
        int man = near(Math.max(0, x.told(2) - 1));
        int other = near(Math.max(0, x.told(2) - 1));
        int what = near(1);
        called = ground + " " + man + " " + other + " " + what;
        switch (to(18)) {
            case 0: {
                int[] a = {1 + near(20), near(4), near(999), 1 + near(98), near(999), near(999), near(5), near(900)};
                return same(() -> x.would(a[0], a[1], a[2], a[3], a[4], a[5], a[6], a[7]),
                        () -> y.would(a[0], a[1], a[2], a[3], a[4], a[5], a[6], a[7]), "would", run);
            }
            case 1: {
                int n = near(99);
                int w = near(2);
                return same(() -> x.ahead(n, w), () -> y.ahead(n, w), "ahead " + n + " " + w, run);
            }
            case 2:
                return same(() -> x.doom(man), () -> y.doom(man), "doom", run);
            case 3: {
                int n = near(24);
                return same(() -> x.suits(man, ground, n, what), () -> y.suits(man, ground, n, what), "suits " + n, run);
            }
            case 4:
                return to(4) == 0 && same(() -> x.hatted(ground), () -> y.hatted(ground), "hatted", run);
            case 5:
                return to(4) == 0 && same(() -> x.given(ground, man), () -> y.given(ground, man), "given", run);
            case 6: {
                int n = to(3) == 0 ? to(8) : to(5) == 0 ? near(1000000) : near(500);
                return same(() -> x.line(man, n), () -> y.line(man, n), "line " + n, run);
            }
            case 7:
                return same(() -> x.meets(man, other, what), () -> y.meets(man, other, what), "meets", run);
            case 8:
            case 9:
                return same(() -> x.fits(man, what), () -> y.fits(man, what), "fits", run);
            case 10:
                return same(() -> x.look(man, what), () -> y.look(man, what), "look", run);
            case 11: {
                int n = to(10) == 0 ? near(99) : near(40);
                return same(() -> x.fleet(ground, n), () -> y.fleet(ground, n), "fleet " + n, run);
            }
            default:
                return askChance(run, man);
        }
    }

    private boolean askChance(int run, int man) {
        int a = near(16);
        switch (to(7)) {
            case 0: {
                int n = near(12);
                int part = near(1);
                return same(() -> x.squall(a, n, part), () -> y.squall(a, n, part), "squall " + a + " " + n, run);
            }
            case 1: {
                int v = to(5) == 0 ? near(1) : near(99);
                int w = near(99);
                int what = near(2);
                return same(() -> x.two(v, w, what), () -> y.two(v, w, what), "two " + v + " " + w, run);
            }
            case 2: {
                int bits = near((1 << x.told(2)) - 1);
                int n = to(4) == 0 ? near(9999) : near(x.told(8) + 9);
                return same(() -> x.share(man, bits, n), () -> y.share(man, bits, n), "share " + bits + " " + n, run);
            }
            case 3: {
                int what = near(1);
                return same(() -> x.best(what), () -> y.best(what), "best", run);
            }
            case 4: {
                int side = near(7);
                return same(() -> x.from(side), () -> y.from(side), "from " + side, run);
            }
            case 5: {
                int seed = dice.nextInt();
                int hours = 1 + near(95);
                int what = near(3);
                return same(() -> x.season(seed, a, hours, what), () -> y.season(seed, a, hours, what),
                        "season " + seed + " " + a + " " + hours + " " + what, run);
            }
            default: {
                int seed = dice.nextInt();
                int many = 1 + near(19);
                int hours = to(4) == 0 ? 1 + near(95) : 1 + to(20);
                int what = near(2);
                return same(() -> x.span(seed, many, a, hours, what), () -> y.span(seed, many, a, hours, what),
                        "span " + seed + " " + many + " " + a + " " + hours + " " + what, run);
            }
        }
    }
}
