/** Promises 14 to 32: questions, by which nothing stays changed. */
public final class AskTest {
    public static void main(String[] args) {
        would();
        ahead();
        doom();
        suits();
        hatted();
        heirs();
        fitsAndLook();
        allPairs();
        fleet();
        squall();
        two();
        share();
        bestAndFrom();
        season();
        span();
        Check.end();
    }

    private static StormHats coast(String text) {
        StormHats x = new StormHats();
        Check.due("coast " + text, Check.coast(x, text) >= 0 ? 1 : 0, 1);
        return x;
    }

    private static void would() {
        StormHats x = new StormHats();
        Check.law(x, "force+angle+hours/100+boat-99+hurt/100+fish/100+others+hour/100");
        Check.due("would", x.would(21, 4, 999, 99, 999, 999, 5, 900), 66);
        Check.due("would", x.would(1, 0, 0, 99, 0, 0, 0, 0), 1);
        int[][] ends = {{1, 21}, {0, 4}, {0, 999}, {1, 99}, {0, 999}, {0, 999}, {0, 5}, {0, 900}};
        for (int i = 0; i < ends.length; i++) {
            for (int end = 0; end < 2; end++) {
                int[] a = {1, 0, 0, 1, 0, 0, 0, 0};
                a[i] = ends[i][end];
                x.would(a[0], a[1], a[2], a[3], a[4], a[5], a[6], a[7]);
                a[i] = end == 0 ? ends[i][0] - 1 : ends[i][1] + 1;
                Check.illegal(x, "would, " + i, () -> x.would(a[0], a[1], a[2], a[3], a[4], a[5], a[6], a[7]));
            }
        }
    }

    private static void ahead() {
        StormHats x = coast("hat 12 0;hat 3 0;ground 30 0;man 50;man 99;heir 0 1;");
        Check.work(x, "wear 0 0;sail 0 0;wear 1 1;sail 1 0;doff 1;");
        Check.due("now", x.ahead(0, 0), 0);
        Check.due("now", x.ahead(0, 1), 3);
        Check.due("now", x.ahead(0, 2), 30);
        Check.due("an hour", x.ahead(1, 0), 15);
        Check.due("two", x.ahead(2, 0), 24);
        Check.due("0 is dead", x.ahead(2, 1), 2);
        Check.due("1 has his hat", x.ahead(3, 0), 30);
        Check.due("left", x.ahead(2, 2), 6);
        Check.due("1 is dead", x.ahead(5, 1), 0);
        Check.due("nothing changed", x.told(3), 0);
        Check.due("nothing changed", x.told(7), 30);
        Check.due("nothing changed", x.man(0, 1), 0);
        Check.illegal(x, "ahead", () -> x.ahead(-1, 0));
        Check.illegal(x, "ahead", () -> x.ahead(100, 0));
        Check.illegal(x, "ahead", () -> x.ahead(1, -1));
        Check.illegal(x, "ahead", () -> x.ahead(1, 3));
        StormHats late = coast("hat 1 4;ground 999 0;man 50;");
        for (int i = 0; i < 5; i++) {
            Check.work(late, "again 30[again 30[hour;];];");
        }
        Check.work(late, "wear 0 0;sail 0 0;");
        Check.due("the last hour", late.told(3), 900);
        Check.due("beyond 900", late.ahead(99, 0), 891);
        Check.law(late, "(hour-900)*30");
        Check.due("the hour goes on", late.doom(0), 3);
        Check.due("alone, too", late.suits(0, 0, 3, 1), 90);
    }

    private static void doom() {
        StormHats x = coast("hat 1 0;hat 1 0;ground 999 0;man 99;man 99;");
        Check.law(x, "hour/199*99+hour/199");
        Check.work(x, "wear 0 0;sail 0 0;");
        Check.due("never", x.doom(1), -1);
        Check.due("not in 200", x.doom(0), -1);
        Check.work(x, "hour;");
        Check.due("in 200", x.doom(0), 200);
        Check.work(x, "die 0;");
        Check.due("dead", x.doom(0), 0);
        Check.missing(x, "doom", () -> x.doom(2));
        Check.missing(x, "doom", () -> x.doom(-1));
    }

    private static void suits() {
        StormHats x = coast("hat 9 0;hat 2 0;hat 2 0;hat 1 0;ground 30 0;ground 7 0;man 20;man 99;");
        Check.due("least", x.suits(0, 0, 2, 0), 3);
        Check.due("hurt", x.suits(0, 0, 2, 1), 6);
        Check.work(x, "wear 0 1;wear 1 3;");
        Check.due("his own, or nobody's", x.suits(0, 0, 24, 0), 1);
        Check.due("more than the boat bears", x.suits(0, 0, 24, 1), 144);
        Check.due("no hours: the first", x.suits(1, 0, 0, 0), 0);
        Check.due("no hours: no hurt", x.suits(1, 0, 0, 1), 0);
        Check.work(x, "sail 1 0;hour;sail 0 0;hour;hour;");
        Check.law(x, "most[0,hours*force+hour+hurt*10+others*50+fish-1]");
        // ALONE with 1: hurt 12, fish 30 - 5 * 9 = 0, hours 0, hour 3.
        Check.due("alone", x.suits(0, 0, 1, 1), 99);
        Check.law(x, "hours*force+hour+others*50+fish+hurt/10");
        Check.due("facts of one alone", x.suits(0, 1, 1, 1), 11);
        Check.due("hours and hurt grow", x.suits(0, 1, 2, 1), 11 + (2 + 4 + 7 + 2));
        Check.work(x, "die 0;");
        Check.due("dead, too", x.suits(0, 1, 2, 1), 11 + (2 + 4 + 7 + 2));
        Check.due("his hat goes", x.suits(0, 1, 2, 0), 1);
        Check.missing(x, "suits", () -> x.suits(2, 0, 99, 9));
        Check.missing(x, "suits", () -> x.suits(0, 2, 99, 9));
        Check.missing(x, "suits", () -> x.suits(-1, 0, 0, 0));
        Check.missing(x, "suits", () -> x.suits(0, -1, 0, 0));
        Check.illegal(x, "suits", () -> x.suits(0, 0, -1, 0));
        Check.illegal(x, "suits", () -> x.suits(0, 0, 25, 0));
        Check.illegal(x, "suits", () -> x.suits(0, 0, 0, 2));
        Check.illegal(x, "suits", () -> x.suits(0, 0, 0, -1));
        StormHats none = coast("hat 9 0;ground 1 0;man 9;man 9;");
        Check.work(none, "wear 0 0;");
        Check.due("none", none.suits(1, 0, 1, 0), -1);
        Check.due("none", none.suits(1, 0, 1, 1), -1);
        Check.due("his own", none.suits(0, 0, 1, 0), 0);
    }

    private static void hatted() {
        StormHats x = coast("hat 5 0;hat 9 0;hat 7 0;ground 30 0;ground 3 0;man 10;man 30;man 20;");
        Check.law(x, "force*boat/10");
        Check.due("hatted", x.hatted(0), 9 + 15 + 14);
        Check.due("given", x.given(0, 0), 1);
        Check.due("given", x.given(0, 1), 0);
        Check.due("given", x.given(0, 2), 2);
        Check.law(x, "force");
        Check.due("alike", x.hatted(1), 21);
        for (int man = 0; man < 3; man++) {
            Check.due("the first way", x.given(1, man), man);
        }
        Check.work(x, "wear 1 0;die 0;");
        Check.due("of those who live", x.hatted(1), 12);
        Check.due("dead", x.given(1, 0), -1);
        Check.due("whoever wears it", x.given(1, 1), 0);
        Check.due("the next", x.given(1, 2), 2);
        Check.work(x, "die 1;die 2;");
        Check.due("nobody lives", x.hatted(0), 0);
        Check.due("nobody lives", x.given(0, 1), -1);
        Check.missing(x, "hatted", () -> x.hatted(2));
        Check.missing(x, "hatted", () -> x.hatted(-1));
        Check.missing(x, "given", () -> x.given(0, 3));
        Check.missing(x, "given", () -> x.given(2, 0));
        StormHats few = coast("hat 5 0;ground 30 0;man 10;man 30;");
        Check.due("fewer hats", few.hatted(0), -1);
        Check.due("fewer hats", few.given(0, 0), -1);
        Check.work(few, "die 0;");
        Check.due("enough", few.hatted(0), 15);
        Check.due("enough", few.given(0, 1), 0);
        Check.due("no hats, no men", coast("ground 1 1;").hatted(0), 0);
    }

    private static void heirs() {
        StormHats x = coast("man 1;man 1;man 1;man 1;man 1;man 1;"
                + "heir 0 2;heir 1 2;heir 2 3;heir 3 4;heir 4 2;");
        Check.due("himself", x.line(5, 0), 5);
        Check.due("no heir", x.line(5, 1), -1);
        Check.due("no heir", x.line(5, 1000000), -1);
        Check.due("round", x.line(0, 1000000), 2);
        Check.due("round", x.line(0, 999999), 4);
        Check.due("six", x.line(0, 6), 4);
        Check.due("meets", x.meets(0, 1, 0), 2);
        Check.due("steps", x.meets(0, 1, 1), 2);
        Check.due("meets the other", x.meets(0, 4, 0), 2);
        Check.due("steps", x.meets(0, 4, 1), 2);
        Check.due("alike: the least", x.meets(2, 3, 0), 3);
        Check.due("steps", x.meets(2, 3, 1), 1);
        Check.due("never", x.meets(0, 5, 0), -1);
        Check.due("never", x.meets(0, 5, 1), -1);
        Check.due("himself", x.meets(5, 5, 0), 5);
        Check.due("himself", x.meets(5, 5, 1), 0);
        Check.due("row", x.row(0), 3);
        Check.due("row", x.row(2), 2);
        Check.due("row", x.row(5), 0);
        StormHats ring = coast("man 1;man 1;man 1;man 1;man 1;man 1;"
                + "heir 0 1;heir 1 2;heir 2 3;heir 3 4;heir 4 5;heir 5 0;");
        Check.due("ring", ring.row(3), 5);
        Check.due("ring", ring.line(3, 1000000), (3 + 1000000) % 6);
        Check.due("the least of those alike", ring.meets(0, 3, 0), 0);
        Check.due("three steps", ring.meets(0, 3, 1), 3);
        StormHats five = coast("man 1;man 1;man 1;man 1;man 1;man 1;"
                + "heir 5 0;heir 0 1;heir 1 2;heir 2 3;heir 3 4;heir 4 0;");
        for (int n = 0; n < 20; n++) {
            Check.due("a ring of five, " + n, five.line(0, n), n % 5);
            Check.due("behind one, " + n, five.line(5, 999000 + n + 1), n % 5);
        }
        Check.due("his own heir", coast("man 1;heir 0 0;").row(0), 0);
        Check.missing(x, "line", () -> x.line(6, -1));
        Check.illegal(x, "line", () -> x.line(0, -1));
        Check.illegal(x, "line", () -> x.line(0, 1000001));
        Check.missing(x, "meets", () -> x.meets(0, 6, 9));
        Check.missing(x, "meets", () -> x.meets(-1, 0, 0));
        Check.illegal(x, "meets", () -> x.meets(0, 0, 2));
        Check.illegal(x, "meets", () -> x.meets(0, 0, -1));
        Check.missing(x, "row", () -> x.row(6));
        Check.missing(x, "row", () -> x.row(-1));
    }

    private static void fitsAndLook() {
        StormHats x = coast("hat 1 0;hat 2 0;hat 3 0;hat 4 0;ground 9 0;ground 9 4;man 9;");
        Check.due("all pairs", x.fits(0, 0), 8);
        Check.due("the first", x.fits(0, 1), 0);
        // In hour 5 all four forces are told apart; in hour 3 just whether they are above 2.
        Check.law(x, "hours%2*(force/3)+hours/5%2*force*10+hours/23*angle");
        Check.due("the hour", x.look(0, 0), 5);
        Check.due("at the worst", x.look(0, 1), 2);
        Check.book(x, "5 31;");
        Check.due("one hat", x.fits(0, 0), 2);
        Check.due("its number", x.fits(0, 1), 20);
        Check.due("the ground is told apart in 23", x.look(0, 0), 23);
        Check.due("one left", x.look(0, 1), 1);
        Check.book(x, "23 5;");
        Check.due("two pairs", x.fits(0, 0), 2);
        Check.due("the first", x.fits(0, 1), 21);
        Check.due("told apart in 5", x.look(0, 0), 5);
        Check.book(x, "23 5;5 41;");
        Check.due("one pair", x.fits(0, 1), 31);
        Check.due("the first hour in no line", x.look(0, 0), 0);
        Check.due("one left", x.look(0, 1), 1);
        Check.book(x, "0 0;1 9;");
        Check.due("none", x.fits(0, 0), 0);
        Check.due("none", x.fits(0, 1), -1);
        Check.due("the first hour in no line", x.look(0, 0), 2);
        Check.due("none left", x.look(0, 1), 0);
        Check.missing(x, "fits", () -> x.fits(1, 9));
        Check.illegal(x, "fits", () -> x.fits(0, 2));
        Check.illegal(x, "fits", () -> x.fits(0, -1));
        Check.missing(x, "look", () -> x.look(-1, 9));
        Check.illegal(x, "look", () -> x.look(0, 2));
        Check.illegal(x, "look", () -> x.look(0, -1));
    }

    private static void allPairs() {
        StormHats x = coast("hat 1 0;hat 2 0;hat 3 0;hat 4 0;hat 5 0;hat 6 0;hat 7 0;hat 8 0;"
                + "ground 0 0;ground 1 1;ground 2 2;ground 3 3;ground 4 4;ground 5 4;man 9;man 9;man 9;man 9;man 9;man 99;");
        Check.law(x, "force*10+fish+hours/23*99");
        Check.due("all pairs", x.fits(5, 0), 48);
        Check.due("told apart at once", x.look(5, 0), 0);
        Check.due("one left", x.look(5, 1), 1);
        Check.law(x, "hours/23*(force*10+angle)");
        Check.due("told apart at last", x.look(5, 0), 23);
        Check.due("two left", x.look(5, 1), 2);
    }

    private static void fleet() {
        StormHats x = coast("hat 10 0;hat 7 0;hat 1 0;hat 2 0;ground 0 0;man 9;man 9;man 9;man 9;man 9;");
        Check.work(x, "wear 0 0;wear 1 1;wear 2 2;wear 3 3;");
        // They would take 6, 7, 9 and 9.
        Check.due("none needed", x.fleet(0, 0), 0);
        Check.due("one", x.fleet(0, 6), 1);
        Check.due("another", x.fleet(0, 7), 2);
        Check.due("of as few the least bits", x.fleet(0, 8), 4);
        Check.due("two", x.fleet(0, 10), 3);
        Check.due("two", x.fleet(0, 18), 12);
        Check.due("three", x.fleet(0, 22), 7);
        Check.due("all", x.fleet(0, 31), 15);
        Check.due("more", x.fleet(0, 32), -1);
        Check.work(x, "die 2;doff 1;");
        Check.due("who lives and wears one", x.fleet(0, 15), 9);
        Check.due("who lives and wears one", x.fleet(0, 16), -1);
        Check.missing(x, "fleet", () -> x.fleet(1, 100));
        Check.missing(x, "fleet", () -> x.fleet(-1, 0));
        Check.illegal(x, "fleet", () -> x.fleet(0, -1));
        Check.illegal(x, "fleet", () -> x.fleet(0, 100));
    }

    private static void squall() {
        StormHats x = new StormHats();
        Check.due("no hours", x.squall(16, 0, 0), 1);
        Check.due("no hours", x.squall(16, 0, 1), 1);
        Check.due("surely", x.squall(16, 2, 0), 0);
        Check.due("surely", x.squall(16, 2, 1), 1);
        Check.due("never", x.squall(0, 12, 1), 1);
        // (15^12 + 12 * 15^11) of 16^12.
        long above = 1;
        for (int i = 0; i < 11; i++) {
            above *= 15;
        }
        Check.due("above", x.squall(1, 12, 0), above * 27);
        Check.due("below", x.squall(1, 12, 1), 1L << 48);
        Check.due("above", x.squall(15, 12, 0), 181);
        Check.illegal(x, "squall", () -> x.squall(-1, 0, 0));
        Check.illegal(x, "squall", () -> x.squall(17, 0, 0));
        Check.illegal(x, "squall", () -> x.squall(0, -1, 0));
        Check.illegal(x, "squall", () -> x.squall(0, 13, 0));
        Check.illegal(x, "squall", () -> x.squall(0, 0, -1));
        Check.illegal(x, "squall", () -> x.squall(0, 0, 2));
    }

    private static void two() {
        StormHats x = new StormHats();
        Check.due("two rests", x.two(99, 0, 0), 2);
        Check.due("the first", x.two(99, 0, 1), 0);
        Check.due("together", x.two(99, 0, 2), 198);
        Check.due("four rests", x.two(0, 7, 0), 4);
        Check.due("the first", x.two(0, 7, 1), 0);
        Check.due("together", x.two(0, 7, 2), 0);
        Check.due("a half, cut", x.two(1, 7, 0), 2);
        Check.illegal(x, "two", () -> x.two(-1, 0, 0));
        Check.illegal(x, "two", () -> x.two(100, 0, 0));
        Check.illegal(x, "two", () -> x.two(0, -1, 0));
        Check.illegal(x, "two", () -> x.two(0, 100, 0));
        Check.illegal(x, "two", () -> x.two(0, 0, -1));
        Check.illegal(x, "two", () -> x.two(0, 0, 3));
    }

    private static void share() {
        StormHats x = coast("hat 1 4;hat 1 4;hat 1 4;ground 999 0;man 9;man 9;man 9;man 9;");
        Check.work(x, "wear 0 0;sail 0 0;hour;wear 1 1;sail 1 0;hour;wear 2 2;sail 2 0;hour;");
        // They landed 27, 18, 9 and 0.
        Check.due("all", x.share(0, 15, 54), 27);
        Check.due("all", x.share(0, 15, 9999), 27);
        Check.due("levelled", x.share(0, 15, 53), 26);
        Check.due("levelled", x.share(1, 15, 30), 10);
        Check.due("levelled", x.share(2, 15, 30), 9);
        Check.due("what can't be shared is left", x.share(0, 7, 29), 10);
        Check.due("what can't be shared is left", x.share(0, 7, 28), 9);
        Check.due("nothing", x.share(0, 7, 2), 0);
        Check.due("nothing", x.share(0, 7, 0), 0);
        Check.due("one of them", x.share(0, 5, 20), 11);
        Check.due("none of them", x.share(1, 5, 20), 0);
        Check.due("none told", x.share(1, 0, 20), 0);
        Check.due("landed none", x.share(3, 8, 20), 0);
        Check.missing(x, "share", () -> x.share(4, -1, -1));
        Check.missing(x, "share", () -> x.share(-1, 0, 0));
        Check.illegal(x, "share", () -> x.share(0, 16, 0));
        Check.illegal(x, "share", () -> x.share(0, -1, 0));
        Check.illegal(x, "share", () -> x.share(0, 0, -1));
        Check.illegal(x, "share", () -> x.share(0, 0, 10000));
    }

    private static void bestAndFrom() {
        StormHats x = coast("hat 1 4;hat 1 7;hat 1 4;ground 36 0;man 9;man 9;man 9;");
        Check.due("none", x.best(0), -1);
        Check.due("none", x.best(1), -1);
        Check.work(x, "wear 1 0;sail 1 0;hour;wear 2 1;sail 2 0;home 1;hour;");
        Check.due("the first of those alike", x.best(0), 1);
        Check.due("how much", x.best(1), 9);
        Check.work(x, "hour;die 2;");
        Check.due("dead, too", x.best(0), 2);
        Check.due("how much", x.best(1), 18);
        Check.due("from 4", x.from(4), 5);
        Check.due("from 7", x.from(7), 2);
        Check.due("from 0", x.from(0), 0);
        Check.illegal(x, "best", () -> x.best(-1));
        Check.illegal(x, "best", () -> x.best(2));
        Check.illegal(x, "from", () -> x.from(-1));
        Check.illegal(x, "from", () -> x.from(8));
    }

    /** DRAWS by seed 1 and one of each: 16838 (0), 5758 (0), 10113 (0), then 17515, which is 11 by 16. */
    private static void season() {
        StormHats x = coast("hat 12 0;ground 50 0;man 30;");
        Check.due("at sea: dead", x.season(1, 11, 1, 1), 0);
        Check.due("at home again", x.season(1, 12, 1, 1), 1);
        Check.due("nothing landed", x.season(1, 12, 1, 0), 0);
        Check.due("he wears it", x.season(1, 12, 1, 3), 1);
        Check.due("the dead wear none", x.season(1, 11, 1, 3), 0);
        Check.due("left", x.season(1, 11, 96, 2), 50);
        StormHats y = coast("hat 1 0;ground 50 0;man 99;");
        Check.due("landed", y.season(1, 0, 3, 0), 27);
        Check.due("left", y.season(1, 0, 3, 2), 23);
        Check.due("home in both hours", y.season(1, 12, 2, 0), 0);
        Check.due("home in none", y.season(1, 11, 2, 0), 18);
        Check.due("nothing changed", y.told(7), 50);
        Check.due("nothing changed", y.told(6), 0);
        StormHats alone = coast("hat 1 0;ground 50 0;");
        Check.due("without men", alone.season(1, 0, 96, 2), 50);
        Check.illegal(x, "season", () -> x.season(1, -1, 1, 0));
        Check.illegal(x, "season", () -> x.season(1, 17, 1, 0));
        Check.illegal(x, "season", () -> x.season(1, 0, 0, 0));
        Check.illegal(x, "season", () -> x.season(1, 0, 97, 0));
        Check.illegal(x, "season", () -> x.season(1, 0, 1, -1));
        Check.illegal(x, "season", () -> x.season(1, 0, 1, 4));
    }

    private static void span() {
        StormHats x = coast("hat 9 0;hat 4 3;hat 6 6;ground 90 0;ground 70 5;man 60;man 40;man 20;heir 0 1;heir 1 2;");
        Check.work(x, "die 1;");
        int least = 9999;
        int most = 0;
        int unharmed = 0;
        for (int i = 0; i < 20; i++) {
            int seed = Integer.MAX_VALUE - 9 + i;
            int landed = x.season(seed, 4, 9, 0);
            least = Math.min(least, landed);
            most = Math.max(most, landed);
            unharmed += x.season(seed, 4, 9, 1) == 5 ? 1 : 0;
        }
        int first = Integer.MAX_VALUE - 9;
        Check.due("least", x.span(first, 20, 4, 9, 0), least);
        Check.due("most", x.span(first, 20, 4, 9, 1), most);
        Check.due("unharmed", x.span(first, 20, 4, 9, 2), unharmed);
        Check.due("they differ", least < most && unharmed > 0 && unharmed < 20 ? 1 : 0, 1);
        Check.illegal(x, "span", () -> x.span(1, 0, 0, 1, 0));
        Check.illegal(x, "span", () -> x.span(1, 21, 0, 1, 0));
        Check.illegal(x, "span", () -> x.span(1, 1, -1, 1, 0));
        Check.illegal(x, "span", () -> x.span(1, 1, 17, 1, 0));
        Check.illegal(x, "span", () -> x.span(1, 1, 0, 0, 0));
        Check.illegal(x, "span", () -> x.span(1, 1, 0, 97, 0));
        Check.illegal(x, "span", () -> x.span(1, 1, 0, 1, -1));
        Check.illegal(x, "span", () -> x.span(1, 1, 0, 1, 3));
    }
}
