import java.nio.charset.StandardCharsets;
import java.util.NoSuchElementException;

/** What the tests have in common: texts for the TAPE, and answers that are due. */
final class Check {
    interface Call {
        long answer();
    }

    private static int wrong;
    private static int looked;

    private Check() {
    }

    static void due(String what, long got, long want) {
        looked++;
        if (got != want) {
            wrong++;
            System.out.println(what + " answered " + got + ", due is " + want);
        }
    }

    static void missing(StormHats x, String what, Call call) {
        refused(x, what, call, 0);
    }

    static void illegal(StormHats x, String what, Call call) {
        refused(x, what, call, 1);
    }

    /** The call throws what status() counts at the number, and is counted there and nowhere else. */
    private static void refused(StormHats x, String what, Call call, int number) {
        int same = x.status(1 - number);
        int before = x.status(number);
        int thrown = -1;
        try {
            call.answer();
        } catch (NoSuchElementException e) {
            thrown = 0;
        } catch (IllegalArgumentException e) {
            thrown = 1;
        }
        due(what + " throws (0 NoSuchElement, 1 IllegalArgument, -1 nothing)", thrown, number);
        due(what + " counted", x.status(number), before + 1);
        due(what + " counted elsewhere", x.status(1 - number), same);
    }

    /** Feeds a text: how many bytes it has. */
    static int feed(StormHats x, String text) {
        byte[] bytes = text.getBytes(StandardCharsets.ISO_8859_1);
        for (int from = 0; from < bytes.length; from += 20) {
            int[] five = new int[5];
            for (int i = 0; i < 20; i++) {
                int one = from + i < bytes.length ? bytes[from + i] & 255 : 0;
                five[i / 4] = five[i / 4] << 8 | one;
            }
            x.feed(five[0], five[1], five[2], five[3], five[4]);
        }
        return bytes.length;
    }

    static int coast(StormHats x, String text) {
        return x.coast(feed(x, text));
    }

    static int law(StormHats x, String text) {
        return x.law(feed(x, text));
    }

    static int work(StormHats x, String text) {
        return x.work(feed(x, text));
    }

    static int book(StormHats x, String text) {
        return x.book(feed(x, text));
    }

    static void coastFault(StormHats x, String text, int code, int place) {
        due("coast " + text, coast(x, text), code - 10);
        due("fault of coast " + text, x.fault(), place);
    }

    static void lawFault(StormHats x, String text, int code, int place) {
        due("law " + text, law(x, text), code - 10);
        due("fault of law " + text, x.fault(), place);
    }

    static void workFault(StormHats x, String text, int code, int place) {
        due("work " + text, work(x, text), code - 10);
        due("fault of work " + text, x.fault(), place);
    }

    static void bookFault(StormHats x, String text, int code, int place) {
        due("book " + text, book(x, text), code - 10);
        due("fault of book " + text, x.fault(), place);
    }

    /** A new object with a COAST that has no FAULT. */
    static StormHats made(String text) {
        StormHats x = new StormHats();
        due("coast " + text, coast(x, text) >= 0 ? 1 : 0, 1);
        return x;
    }

    /** A WORK: how many STEPS were done, and how many REFUSED. */
    static void doing(StormHats x, String text, int done, int refused) {
        due("work " + text, work(x, text), done);
        due("refused by " + text, x.told(10), refused);
    }

    static void same(String what, String got, String want) {
        looked++;
        if (!got.equals(want)) {
            wrong++;
            System.out.println(what + ": " + got + ", due is " + want);
        }
    }

    /** All that WORK changes, as a text; some 100 calls for a full COAST. */
    static String daysOf(StormHats x) {
        StringBuilder b = new StringBuilder("hour " + x.told(3));
        for (int hat = 0; hat < x.told(0); hat++) {
            b.append(", hat ").append(x.hat(hat, 2)).append(' ').append(x.hat(hat, 3));
        }
        for (int ground = 0; ground < x.told(1); ground++) {
            b.append(", ground ").append(x.ground(ground, 0)).append(' ').append(x.ground(ground, 2));
        }
        for (int man = 0; man < x.told(2); man++) {
            b.append(", man");
            for (int what : new int[] {1, 2, 3, 4, 5, 7}) {
                b.append(' ').append(x.man(man, what));
            }
        }
        return b.toString();
    }

    /** What a COAST, a LAW and a BOOK tell, and how many WORKS and IMAGES there are. */
    static String toldOf(StormHats x) {
        StringBuilder b = new StringBuilder("told");
        for (int what : new int[] {0, 1, 2, 9, 10}) {
            b.append(' ').append(x.told(what));
        }
        for (int hat = 0; hat < x.told(0); hat++) {
            b.append(", hat ").append(x.hat(hat, 0)).append(' ').append(x.hat(hat, 1));
        }
        for (int ground = 0; ground < x.told(1); ground++) {
            b.append(", ground ").append(x.ground(ground, 1)).append(' ').append(x.ground(ground, 3));
        }
        for (int man = 0; man < x.told(2); man++) {
            b.append(", man ").append(x.man(man, 0)).append(' ').append(x.man(man, 6));
        }
        b.append(", law ").append(x.would(7, 1, 2, 3, 4, 5, 1, 6)).append(' ').append(x.would(3, 0, 1, 1, 0, 0, 0, 1));
        return b.append(", count ").append(x.count(0)).append(' ').append(x.count(2)).toString();
    }

    /** Ends the test: with exit code 1, if an answer was not the one due. */
    static void end() {
        System.out.println(looked + " answers looked at, " + wrong + " not as due");
        if (wrong != 0 || looked == 0) {
            System.exit(1);
        }
    }
}
