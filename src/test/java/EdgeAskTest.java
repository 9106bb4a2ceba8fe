import java.math.BigInteger;

/** What the document says of questions, sentence by sentence: their least and greatest numbers, none, and alike ones. */
public final class EdgeAskTest {
    private static final String SMALL = "hat 4 0;hat 5 3;hat 2 6;ground 50 0;ground 40 5;man 60;man 50;man 20;heir 0 1;heir 1 2;";
    private static final String RING = "man 1;man 1;man 1;man 1;man 1;man 1;heir 0 1;heir 1 2;heir 2 3;heir 3 4;heir 4 5;heir 5 0;";

    public static void main(String[] args) {
        nothingStaysChanged();
        beyond900();
        alone();
        hours();
        hats();
        heirs();
        books();
        fleets();
        squalls();
        twoAtOneGround();
        shares();
        bests();
        sides();
        seasons();
        Check.end();
    }

    private static void alone() {
        aloneWhoeverIsThere();
        aloneFishAsNow();
        aloneHourAsNow();
        aloneHoursFromZero();
        aloneHurtGrows();
        aloneThoughDead();
        aloneByOil();
    }

    private static void hours() {
        aheadWithOil();
        wouldWithinItsEnds();
        hoursAhead();
        doomToTwoHundred();
        doomOfTheDead();
    }

    private static void hats() {
        suitsWhatNobodyElseWears();
        suitsFirstOfAlike();
        suitsNone();
        suitsHours();
        hattedByFewerHats();
        hattedByAsManyHats();
        hattedNobodyLives();
        hattedOfThoseWhoLive();
        hattedWhoeverWearsThem();
        hattedFirstOfAlike();
        hattedByUnlikeMen();
    }

    private static void heirs() {
        linesOfHeirs();
        lineNumbers();
        meetings();
        meetingsOfAlike();
        rows();
    }

    private static void books() {
        fitsWithoutLines();
        fitsNone();
        fitsFirst();
        fitsFirstAndLastHour();
        lookInNoLine();
        lookFirstOfAlike();
        lookAtTheWorst();
        looksWithoutPairs();
    }

    private static void fleets() {
        fleetForNone();
        fleetLeastBits();
        fleetNone();
        fleetOfThoseWhoCan();
        fleetHoweverManyFish();
        fleetNumbers();
    }

    private static void seasons() {
        seasonDraws();
        seasonHome();
        seasonOfWhatCanBeDone();
        seasonWithoutSomething();
        seasonNumbers();
        spanNumbers();
        spanSeeds();
        spanOfThoseWhoLive();
    }

    // "Asked, nothing stays changed"
    private static void nothingStaysChanged() {
        StormHats x = Check.made(SMALL);
        Check.law(x, "force*3+hours");
        Check.book(x, "0 12;1 13;");
        Check.doing(x, "wear 0 0;sail 0 0;wear 1 1;sail 1 1;oil 2;hour;hour;doff 2;", 7, 1);
        x.image();
        String days = Check.daysOf(x);
        String told = Check.toldOf(x);
        x.ahead(99, 1);
        x.doom(0);
        x.doom(2);
        x.suits(2, 1, 24, 1);
        x.hatted(0);
        x.given(1, 2);
        x.line(0, 1000000);
        x.meets(0, 1, 1);
        x.fits(0, 0);
        x.look(1, 1);
        x.fleet(0, 12);
        x.squall(3, 12, 1);
        x.two(1, 2, 2);
        x.share(0, 7, 5);
        x.best(0);
        x.from(3);
        x.row(0);
        x.season(5, 3, 96, 0);
        x.span(5, 20, 3, 96, 0);
        x.would(1, 1, 1, 1, 1, 1, 1, 1);
        Check.same("days", Check.daysOf(x), days);
        Check.same("told", Check.toldOf(x), told);
        Check.due("no fault", x.fault(), -1);
        Check.due("none refused", x.status(0) + x.status(1), 0);
    }

    private static StormHats at900(String coast) {
        StormHats x = Check.made(coast);
        for (int i = 0; i < 4; i++) {
            Check.doing(x, "again 30[again 30[hour;];];", 192, 0);
        }
        Check.doing(x, "again 5[again 26[hour;];];hour;hour;", 132, 0);
        Check.due("hour 900", x.told(3), 900);
        return x;
    }

    // "HOURS go by as by hour (beyond 900, too)"
    private static void beyond900() {
        StormHats x = at900("hat 1 0;ground 999 0;man 99;");
        Check.doing(x, "wear 0 0;sail 0 0;", 2, 0);
        Check.law(x, "0");
        Check.due("ahead", x.ahead(99, 0), 891);
        Check.due("a season", x.season(1, 0, 96, 0), 864);
        Check.due("a span", x.span(1, 2, 0, 96, 0), 864);
        Check.law(x, "(hour-900)*10");
        Check.due("doom by 10, 20, 30 and 40", x.doom(0), 5);
        Check.due("suits", x.suits(0, 0, 4, 1), 60);
        Check.book(x, "3 30;");
        Check.due("fits", x.fits(0, 0), 1);
        Check.due("living", x.ahead(4, 1), 1);
        Check.due("dead", x.ahead(5, 1), 0);
        Check.due("hour as it was", x.told(3), 900);
    }

    // "ALONE: .. no others"
    private static void aloneWhoeverIsThere() {
        StormHats x = Check.made("hat 1 0;hat 1 0;ground 9 0;man 9;man 9;");
        Check.doing(x, "wear 0 0;wear 1 1;sail 0 0;sail 1 0;", 4, 0);
        Check.law(x, "others*7+1");
        Check.due("with another", x.sea(0), 8);
        Check.due("alone", x.suits(0, 0, 1, 1), 1);
        Check.due("hatted", x.hatted(0), 2);
        Check.book(x, "0 1;");
        Check.due("fits", x.fits(0, 0), 2);
        Check.law(x, "others*90");
        Check.due("fleet", x.fleet(0, 9), 1);
    }

    // "fish as many as now all along"
    private static void aloneFishAsNow() {
        StormHats x = Check.made("hat 1 0;ground 20 0;man 99;");
        Check.law(x, "fish");
        Check.due("three hours alike", x.suits(0, 0, 3, 1), 60);
        Check.doing(x, "wear 0 0;sail 0 0;hour;", 3, 0);
        Check.due("as now", x.ground(0, 0), 13);
        Check.due("as now", x.suits(0, 0, 3, 1), 39);
    }

    // "HOUR as now and going on"
    private static void aloneHourAsNow() {
        StormHats x = Check.made("hat 1 0;ground 20 0;man 99;");
        Check.law(x, "hour");
        Check.due("0, 1, 2", x.suits(0, 0, 3, 1), 3);
        Check.doing(x, "again 5[hour;];", 5, 0);
        Check.due("5, 6, 7", x.suits(0, 0, 3, 1), 18);
    }

    // "a MAN .. is there with it on from now on, hours 0, 1, .."
    private static void aloneHoursFromZero() {
        StormHats x = Check.made("hat 1 0;ground 20 0;man 99;");
        Check.law(x, "hours");
        Check.doing(x, "wear 0 0;sail 0 0;again 5[hour;];", 7, 0);
        Check.due("he was there 5 hours", x.sea(0), 5);
        Check.due("0, 1, 2, though he was there", x.suits(0, 0, 3, 1), 3);
    }

    // "his hurt as now and growing by each SEA (however much the boat bears)"
    private static void aloneHurtGrows() {
        StormHats x = Check.made("hat 5 0;ground 20 0;man 20;");
        Check.doing(x, "wear 0 0;sail 0 0;hour;", 3, 0);
        Check.due("hurt", x.man(0, 1), 15);
        Check.law(x, "hurt");
        Check.due("15, 30, 60", x.suits(0, 0, 3, 1), 105);
        Check.due("15, 30, 60, 99", x.suits(0, 0, 4, 1), 204);
        Check.due("and 99 each hour more", x.suits(0, 0, 24, 1), 105 + 21 * 99);
        Check.due("not hurt by being asked", x.man(0, 1), 15);
    }

    // "a MAN (DEAD, too, whatever he wears)"
    private static void aloneThoughDead() {
        StormHats x = Check.made("hat 5 0;hat 4 0;ground 20 0;man 20;man 20;");
        Check.doing(x, "wear 0 0;wear 1 1;die 0;", 3, 0);
        Check.due("suits the dead", x.suits(0, 0, 2, 0), 0);
        Check.due("so much", x.suits(0, 0, 2, 1), 30);
        Check.due("fits the dead", x.fits(0, 0), 2);
        Check.book(x, "0 12;");
        Check.due("whoever wears it", x.fits(0, 1), 10);
        Check.due("look for the dead", x.look(0, 1), 1);
    }

    // "force" (F of his HAT, and its oil)
    private static void aloneByOil() {
        StormHats x = Check.made("hat 5 0;hat 6 0;ground 20 0;man 20;");
        Check.doing(x, "oil 0;oil 0;", 2, 0);
        Check.due("the other one suits", x.suits(0, 0, 1, 0), 1);
        Check.due("so much", x.suits(0, 0, 1, 1), 18);
        Check.due("hatted", x.given(0, 0), 1);
    }

    // would: "force (1 to 21), angle (0 to 4), hours (0 to 999), boat (1 to 99), hurt, fish (0 to 999), others (0 to 5), hour (0 to 900)"
    private static void wouldWithinItsEnds() {
        int[] least = {1, 0, 0, 1, 0, 0, 0, 0};
        int[] most = {21, 4, 999, 99, 999, 999, 5, 900};
        String[] facts = {"force", "angle", "hours", "boat", "hurt", "fish", "others", "hour"};
        for (int i = 0; i < facts.length; i++) {
            StormHats x = new StormHats();
            Check.law(x, facts[i] + "-" + Math.max(0, most[i] - 50));
            Check.due(facts[i] + " at most", would(x, least, i, most[i]), Math.min(50, most[i]));
            Check.law(x, facts[i] + "+50");
            Check.due(facts[i] + " at least", would(x, most, i, least[i]), 50 + least[i]);
            for (int wrong : new int[] {least[i] - 1, most[i] + 1, Integer.MIN_VALUE, Integer.MAX_VALUE}) {
                int at = i;
                Check.illegal(x, "would, " + facts[i] + " " + wrong, () -> would(x, least, at, wrong));
            }
        }
    }

    private static int would(StormHats x, int[] all, int at, int value) {
        int[] a = all.clone();
        a[at] = value;
        return x.would(a[0], a[1], a[2], a[3], a[4], a[5], a[6], a[7]);
    }

    // HOURS go by with HATS as they are oiled.
    private static void aheadWithOil() {
        StormHats x = Check.made("hat 1 0;hat 1 0;ground 99 0;man 99;");
        Check.doing(x, "wear 0 0;sail 0 0;again 9[oil 0;];", 11, 0);
        Check.due("sea 30: takes 6", x.ahead(1, 0), 6);
        Check.due("in four hours", x.doom(0), 4);
        StormHats y = Check.made("hat 1 0;ground 99 0;man 99;");
        Check.doing(y, "again 9[oil 0;];", 9, 0);
        Check.due("a season's hour", y.season(1, 0, 1, 0), 6);
    }

    // ahead: "In n HOURS (0 to 99), nothing else being done"
    private static void hoursAhead() {
        StormHats x = Check.made("hat 1 0;hat 1 0;ground 999 0;man 99;man 9;");
        Check.doing(x, "wear 0 0;sail 0 0;wear 1 1;", 3, 0);
        Check.law(x, "hours/98*99*others");
        Check.due("now: landed", x.ahead(0, 0), 0);
        Check.due("now: living", x.ahead(0, 1), 3);
        Check.due("now: left", x.ahead(0, 2), 999);
        Check.due("landed in an hour", x.ahead(1, 0), 9);
        Check.due("landed in 99", x.ahead(99, 0), 891);
        Check.due("left in 99", x.ahead(99, 2), 108);
        Check.law(x, "hours/98*99+hours/98");
        Check.due("living in 99", x.ahead(99, 1), 3);
        Check.law(x, "hours/97*99");
        Check.due("living in 98", x.ahead(98, 1), 3);
        Check.due("dead in 99", x.ahead(99, 1), 2);
        for (int n : new int[] {-1, 100, Integer.MIN_VALUE, Integer.MAX_VALUE}) {
            Check.illegal(x, "ahead " + n, () -> x.ahead(n, 0));
        }
        for (int what : new int[] {-1, 3, Integer.MIN_VALUE, Integer.MAX_VALUE}) {
            Check.illegal(x, "ahead, what " + what, () -> x.ahead(0, what));
        }
    }

    // doom: "In how many HOURS (1 to 200) .. a MAN is DEAD; .. NONE"
    private static void doomToTwoHundred() {
        StormHats x = Check.made("hat 1 0;ground 9 0;man 1;");
        Check.doing(x, "wear 0 0;sail 0 0;", 2, 0);
        Check.law(x, "2");
        Check.due("in one", x.doom(0), 1);
        Check.law(x, "1");
        Check.due("in two", x.doom(0), 2);
        Check.law(x, "hours/198*2");
        Check.due("in 199", x.doom(0), 199);
        Check.law(x, "hours/199*2");
        Check.due("in 200", x.doom(0), 200);
        Check.law(x, "hours/200*2");
        Check.due("not in 200", x.doom(0), -1);
        Check.law(x, "0");
        Check.due("never", x.doom(0), -1);
        Check.missing(x, "doom(1)", () -> x.doom(1));
        Check.missing(x, "doom(-1)", () -> x.doom(-1));
    }

    // doom: "0: he is"
    private static void doomOfTheDead() {
        StormHats x = Check.made(SMALL);
        Check.doing(x, "die 1;", 1, 0);
        Check.due("dead", x.doom(1), 0);
        Check.due("lives", x.doom(0), -1);
    }

    // "SUITS: the HAT nobody but he wears"
    private static void suitsWhatNobodyElseWears() {
        StormHats x = Check.made("hat 1 0;hat 2 0;hat 3 0;ground 9 0;man 9;man 9;");
        Check.doing(x, "wear 0 0;wear 1 1;", 2, 0);
        Check.due("his own", x.suits(0, 0, 1, 0), 0);
        Check.due("not another's", x.suits(1, 0, 1, 0), 1);
        Check.doing(x, "doff 0;", 1, 0);
        Check.due("nobody's", x.suits(1, 0, 1, 0), 0);
        Check.doing(x, "wear 0 1;wear 1 0;wear 0 2;", 2, 1);
        Check.due("nobody's, though he wears one", x.suits(0, 0, 1, 0), 1);
    }

    // "of alike ones the first"
    private static void suitsFirstOfAlike() {
        StormHats x = Check.made("hat 3 0;hat 2 0;hat 2 0;hat 2 0;ground 9 0;man 9;man 9;");
        Check.due("of three alike", x.suits(0, 0, 1, 0), 1);
        Check.doing(x, "wear 1 1;", 1, 0);
        Check.due("of two alike", x.suits(0, 0, 1, 0), 2);
        Check.doing(x, "wear 0 3;", 1, 0);
        Check.due("his own is none better", x.suits(0, 0, 1, 0), 2);
        Check.due("by no hours all are alike", x.suits(0, 0, 0, 0), 0);
        Check.due("and hurt him nothing", x.suits(0, 0, 0, 1), 0);
    }

    // suits: "NONE both"
    private static void suitsNone() {
        StormHats x = Check.made("hat 3 0;ground 9 0;man 9;man 9;");
        Check.doing(x, "wear 1 0;", 1, 0);
        StormHats bare = Check.made("ground 9 0;man 9;");
        for (int what = 0; what < 2; what++) {
            Check.due("all are worn by others", x.suits(0, 0, 5, what), -1);
            Check.due("by no hours, too", x.suits(0, 0, 0, what), -1);
            Check.due("there are no hats", bare.suits(0, 0, 5, what), -1);
        }
    }

    // suits: "by n (0 to 24)"; "no such HAT, GROUND, MAN (so below, ahead of others)"
    private static void suitsHours() {
        StormHats x = Check.made("hat 1 0;ground 9 0;man 9;");
        Check.due("24 hours", x.suits(0, 0, 24, 1), 72);
        Check.due("1 hour", x.suits(0, 0, 1, 1), 3);
        for (int wrong : new int[] {-1, 25, Integer.MIN_VALUE, Integer.MAX_VALUE}) {
            Check.illegal(x, "suits, n " + wrong, () -> x.suits(0, 0, wrong, 0));
            Check.illegal(x, "suits, what " + wrong, () -> x.suits(0, 0, 0, wrong));
            Check.missing(x, "suits, man " + wrong, () -> x.suits(wrong, 0, wrong, wrong));
            Check.missing(x, "suits, ground " + wrong, () -> x.suits(0, wrong, wrong, wrong));
        }
        Check.illegal(x, "suits, what 2", () -> x.suits(0, 0, 0, 2));
        Check.missing(x, "suits, man 1", () -> x.suits(1, 0, 0, 0));
        Check.missing(x, "suits, ground 1", () -> x.suits(0, 1, 0, 0));
    }

    // "NONE: there are fewer HATS"
    private static void hattedByFewerHats() {
        StormHats x = Check.made("hat 3 0;hat 3 0;ground 9 0;man 9;man 9;man 9;");
        Check.due("two for three", x.hatted(0), -1);
        for (int man = 0; man < 3; man++) {
            Check.due("given", x.given(0, man), -1);
        }
        StormHats none = Check.made("ground 9 0;man 9;");
        Check.due("none for one", none.hatted(0), -1);
        Check.due("given", none.given(0, 0), -1);
    }

    private static void hattedByAsManyHats() {
        StormHats x = Check.made("hat 3 0;hat 4 0;ground 9 0;man 9;man 9;");
        Check.due("two for two", x.hatted(0), 21);
        Check.due("given", x.given(0, 0), 0);
        Check.due("given", x.given(0, 1), 1);
        StormHats full = Check.made("hat 1 0;hat 2 0;hat 3 0;hat 4 0;hat 5 0;hat 6 0;hat 7 0;hat 8 0;ground 9 0;"
                + "man 9;man 9;man 9;man 9;man 9;man 9;");
        Check.due("eight for six", full.hatted(0), 63);
        Check.due("the last one's", full.given(0, 5), 5);
        Check.law(full, "99");
        Check.due("as rough as can be", full.hatted(0), 594);
        Check.law(full, "(9-force)*boat/9");
        Check.due("the stormy ones", full.hatted(0), 1 + 2 + 3 + 4 + 5 + 6);
        Check.due("the first of them", full.given(0, 0), 2);
        Check.due("the last of them", full.given(0, 5), 7);
    }

    // hatted: "0: nobody lives"
    private static void hattedNobodyLives() {
        StormHats x = Check.made("hat 3 0;ground 9 0;man 9;man 9;");
        Check.doing(x, "die 0;die 1;", 2, 0);
        Check.due("nobody lives", x.hatted(0), 0);
        Check.due("given", x.given(0, 0), -1);
        Check.due("there are no men", Check.made("hat 3 0;ground 9 0;").hatted(0), 0);
        Check.due("nor hats", Check.made("ground 9 0;").hatted(0), 0);
    }

    // "to give living MEN unlike HATS"; given: "NONE (DEAD, too)"
    private static void hattedOfThoseWhoLive() {
        StormHats x = Check.made("hat 3 0;hat 4 0;ground 9 0;man 9;man 9;man 9;");
        Check.doing(x, "die 0;", 1, 0);
        Check.due("two for the two who live", x.hatted(0), 21);
        Check.due("the dead", x.given(0, 0), -1);
        Check.due("the first who lives", x.given(0, 1), 0);
        Check.due("the next", x.given(0, 2), 1);
        Check.missing(x, "hatted(1)", () -> x.hatted(1));
        Check.missing(x, "hatted(-1)", () -> x.hatted(-1));
        Check.missing(x, "given(1, 0)", () -> x.given(1, 0));
        Check.missing(x, "given(-1, 0)", () -> x.given(-1, 0));
        Check.missing(x, "given(0, 3)", () -> x.given(0, 3));
        Check.missing(x, "given(0, -1)", () -> x.given(0, -1));
    }

    // "(of all, whoever wears them)"
    private static void hattedWhoeverWearsThem() {
        StormHats x = Check.made("hat 3 0;hat 4 0;hat 5 0;ground 9 0;man 9;man 9;");
        Check.doing(x, "wear 1 0;wear 0 2;", 2, 0);
        Check.due("seas", x.hatted(0), 21);
        Check.due("another's", x.given(0, 0), 0);
        Check.due("nobody's", x.given(0, 1), 1);
    }

    // "of alike ways the first (MAN by MAN the least HAT)"
    private static void hattedFirstOfAlike() {
        StormHats x = Check.made("hat 5 0;hat 3 0;hat 3 0;hat 3 0;ground 9 0;man 9;man 9;");
        Check.due("the first two of three alike", x.given(0, 0), 1);
        Check.due("the first two of three alike", x.given(0, 1), 2);
        // 0 has it alike by both HATS, 1 not: what 0 has first counts only if all together is least.
        StormHats y = Check.made("hat 3 0;hat 4 0;ground 9 0;man 10;man 20;");
        Check.law(y, "boat/20*force");
        Check.due("together", y.hatted(0), 3);
        Check.due("0 leaves the first", y.given(0, 0), 1);
        Check.due("1 has the first", y.given(0, 1), 0);
    }

    // "that by which the first SEAS of all .. are least together"
    private static void hattedByUnlikeMen() {
        StormHats x = Check.made("hat 5 0;hat 9 0;hat 7 0;hat 6 0;ground 30 0;man 90;man 10;man 30;man 20;");
        Check.law(x, "force*boat/10");
        gives(x, 45 + 9 + 18 + 14, 0, 1, 3, 2);
        Check.doing(x, "die 0;", 1, 0);
        gives(x, 7 + 15 + 12, -1, 2, 0, 3);
        Check.doing(x, "die 2;", 1, 0);
        gives(x, 6 + 10, -1, 3, -1, 0);
        Check.doing(x, "die 3;", 1, 0);
        gives(x, 5, -1, 0, -1, -1);
        Check.coast(x, "hat 5 0;hat 9 0;hat 7 0;ground 30 0;man 9;man 9;man 9;");
        gives(x, 63, 0, 1, 2);
        Check.coast(x, "hat 5 0;hat 9 0;ground 30 0;man 9;man 9;");
        gives(x, 42, 0, 1);
    }

    private static void gives(StormHats x, int seas, int... hats) {
        Check.due("hatted", x.hatted(0), seas);
        for (int man = 0; man < hats.length; man++) {
            Check.due("given to " + man, x.given(0, man), hats[man]);
        }
    }

    // "the heir of the heir .. of him, n times; NONE"
    private static void linesOfHeirs() {
        StormHats x = Check.made("man 1;man 1;man 1;man 1;heir 0 1;heir 1 2;heir 3 3;");
        Check.due("no times", x.line(0, 0), 0);
        Check.due("once", x.line(0, 1), 1);
        Check.due("twice", x.line(0, 2), 2);
        Check.due("three times", x.line(0, 3), -1);
        Check.due("and on", x.line(0, 4), -1);
        Check.due("as often as can be", x.line(0, 1000000), -1);
        Check.due("without an heir, no times", x.line(2, 0), 2);
        Check.due("without an heir", x.line(2, 1), -1);
        Check.due("his own heir", x.line(3, 1000000), 3);
    }

    // line: "n (0 to 1,000,000)"
    private static void lineNumbers() {
        StormHats x = Check.made(RING);
        for (int n : new int[] {0, 1, 5, 6, 7, 65, 66, 67, 999999, 1000000}) {
            Check.due("round, " + n, x.line(2, n), (2 + n) % 6);
        }
        for (int wrong : new int[] {-1, 1000001, Integer.MIN_VALUE, Integer.MAX_VALUE}) {
            Check.illegal(x, "line, n " + wrong, () -> x.line(0, wrong));
            Check.missing(x, "line, man " + wrong, () -> x.line(wrong, wrong));
        }
        Check.missing(x, "line, man 6", () -> x.line(6, 0));
    }

    // "the first MAN to whom both come by heirs, by the fewest steps of both together .. NONE"; "One with himself: he, 0"
    private static void meetings() {
        StormHats x = Check.made("man 1;man 1;man 1;man 1;man 1;man 1;heir 0 2;heir 1 3;heir 3 2;heir 2 4;");
        meet(x, 0, 1, 2, 3);
        meet(x, 1, 0, 2, 3);
        meet(x, 0, 4, 4, 2);
        meet(x, 4, 1, 4, 3);
        meet(x, 0, 0, 0, 0);
        meet(x, 5, 5, 5, 0);
        meet(x, 0, 5, -1, -1);
        meet(x, 5, 4, -1, -1);
        for (int wrong : new int[] {-1, 6, Integer.MIN_VALUE, Integer.MAX_VALUE}) {
            Check.missing(x, "meets, man " + wrong, () -> x.meets(wrong, 0, 9));
            Check.missing(x, "meets, other " + wrong, () -> x.meets(0, wrong, 9));
            Check.illegal(x, "meets, what " + wrong, () -> x.meets(0, 0, wrong));
        }
        Check.illegal(x, "meets, what 2", () -> x.meets(0, 5, 2));
    }

    private static void meet(StormHats x, int man, int other, int there, int steps) {
        Check.due(man + " meets " + other, x.meets(man, other, 0), there);
        Check.due(man + " meets " + other + ", steps", x.meets(man, other, 1), steps);
    }

    // meets: "of alike ones the least"
    private static void meetingsOfAlike() {
        StormHats x = Check.made(RING);
        meet(x, 1, 4, 1, 3);
        meet(x, 4, 1, 1, 3);
        meet(x, 5, 2, 2, 3);
        meet(x, 0, 5, 0, 1);
        meet(x, 1, 5, 1, 2);
        StormHats y = Check.made("man 1;man 1;heir 0 1;heir 1 0;");
        meet(y, 0, 1, 0, 1);
        meet(y, 1, 0, 0, 1);
    }

    // row: "The longest row of heirs, each the heir of the one ahead, no MAN twice, from a MAN on"
    private static void rows() {
        StormHats x = Check.made("man 1;man 1;man 1;man 1;man 1;man 1;heir 0 1;heir 1 2;heir 2 1;heir 3 3;heir 4 0;");
        int[] due = {2, 1, 1, 0, 3, 0};
        for (int man = 0; man < 6; man++) {
            Check.due("row from " + man, x.row(man), due[man]);
        }
        Check.due("all round", Check.made(RING).row(4), 5);
        for (int wrong : new int[] {-1, 6, Integer.MIN_VALUE, Integer.MAX_VALUE}) {
            Check.missing(x, "row, man " + wrong, () -> x.row(wrong));
        }
    }

    // FITS: a BOOK without lines is right by all pairs.
    private static void fitsWithoutLines() {
        StormHats x = Check.made("hat 1 0;".repeat(8) + "ground 1 0;".repeat(6) + "man 9;");
        Check.due("all pairs", x.fits(0, 0), 48);
        Check.due("the first", x.fits(0, 1), 0);
        StormHats few = Check.made("hat 1 0;man 9;");
        Check.due("no grounds, no pairs", few.fits(0, 0), 0);
        Check.due("none", few.fits(0, 1), -1);
        StormHats bare = Check.made("ground 1 0;man 9;");
        Check.due("no hats, no pairs", bare.fits(0, 0), 0);
        Check.due("none", bare.fits(0, 1), -1);
    }

    // fits: "1 the first (.. NONE)"
    private static void fitsNone() {
        StormHats x = Check.made("hat 1 0;hat 2 0;ground 1 0;man 9;");
        Check.book(x, "0 3;1 6;");
        Check.due("no pair has all lines", x.fits(0, 0), 0);
        Check.due("none", x.fits(0, 1), -1);
        for (int wrong : new int[] {-1, 2, Integer.MIN_VALUE, Integer.MAX_VALUE}) {
            Check.illegal(x, "fits, what " + wrong, () -> x.fits(0, wrong));
            Check.illegal(x, "look, what " + wrong, () -> x.look(0, wrong));
            Check.missing(x, "fits, man " + wrong, () -> x.fits(wrong, wrong));
            Check.missing(x, "look, man " + wrong, () -> x.look(wrong, wrong));
        }
        Check.missing(x, "fits, man 1", () -> x.fits(1, 0));
        Check.missing(x, "look, man 1", () -> x.look(1, 0));
    }

    // fits: "the first (10 times the HAT, and the GROUND ..)"
    private static void fitsFirst() {
        StormHats x = Check.made("hat 1 0;".repeat(7) + "hat 9 0;" + "ground 1 0;".repeat(5) + "ground 1 4;man 9;");
        Check.book(x, "0 11;");
        Check.due("one pair", x.fits(0, 0), 1);
        Check.due("the last pair", x.fits(0, 1), 75);
        Check.book(x, "0 27;");
        Check.due("five pairs", x.fits(0, 0), 5);
        Check.due("the first of them", x.fits(0, 1), 70);
        Check.book(x, "0 0;");
        Check.due("seven pairs", x.fits(0, 0), 7);
        Check.due("the first of them", x.fits(0, 1), 5);
    }

    // "(the first hour is 0)", "H-th hour (0 to 23)"
    private static void fitsFirstAndLastHour() {
        StormHats x = Check.made("hat 1 0;hat 2 0;ground 1 0;man 9;");
        Check.law(x, "force+hours");
        Check.book(x, "0 2;");
        Check.due("hour 0", x.fits(0, 1), 10);
        Check.book(x, "23 24;");
        Check.due("hour 23", x.fits(0, 1), 0);
        Check.book(x, "23 25;0 2;");
        Check.due("both", x.fits(0, 1), 10);
        Check.book(x, "23 24;0 2;");
        Check.due("not both", x.fits(0, 0), 0);
        Check.book(x, "0 2;1 3;2 4;3 5;4 6;5 7;6 8;23 25;");
        Check.due("eight lines", x.fits(0, 0), 1);
        Check.due("eight lines", x.fits(0, 1), 10);
    }

    // "LOOK: the hour (0 to 23) in no line"
    private static void lookInNoLine() {
        StormHats x = Check.made("hat 1 0;hat 2 0;ground 1 0;man 9;");
        Check.law(x, "hours/23*force");
        Check.due("the last hour", x.look(0, 0), 23);
        Check.due("one is left", x.look(0, 1), 1);
        Check.book(x, "23 1;");
        Check.due("that is in a line", x.look(0, 0), 0);
        Check.book(x, "0 0;1 0;2 0;3 0;4 0;5 0;6 0;7 0;");
        Check.law(x, "force*0");
        Check.due("the first in no line", x.look(0, 0), 8);
        Check.due("both are left", x.look(0, 1), 2);
    }

    // look: "of these the first"
    private static void lookFirstOfAlike() {
        StormHats x = Check.made("hat 1 0;hat 2 0;ground 1 0;man 9;");
        Check.law(x, "most[0,least[hours-6,1]]*force");
        Check.due("the first that tells", x.look(0, 0), 7);
        Check.law(x, "force");
        Check.due("all tell", x.look(0, 0), 0);
        Check.law(x, "7");
        Check.due("none tells", x.look(0, 0), 0);
        Check.due("both are left", x.look(0, 1), 2);
    }

    // look: "by which, however rough, fewest such pairs are left at the worst"
    private static void lookAtTheWorst() {
        StormHats x = Check.made("hat 1 0;hat 2 0;hat 3 0;hat 4 0;hat 5 0;ground 1 0;man 9;");
        // Hour 0: 4 and 1; hour 1: 3 and 2; hour 2: 2, 2 and 1; then 5.
        Check.law(x, "least[1,most[0,1-hours]]*(force/5)+least[1,most[0,1-(hours-1)*(hours-1)]]*(force/4)"
                + "+least[1,most[0,1-(hours-2)*(hours-2)]]*(force/2)");
        Check.due("hour 2", x.look(0, 0), 2);
        Check.due("two are left", x.look(0, 1), 2);
        Check.book(x, "2 1;");
        Check.due("two fit", x.fits(0, 0), 2);
        Check.due("nothing tells them apart", x.look(0, 1), 2);
        Check.due("so the first hour", x.look(0, 0), 0);
        Check.law(x, "98+force%2");
        Check.book(x, "");
        Check.due("as rough as can be", x.look(0, 1), 3);
        StormHats all = Check.made("hat 1 0;".repeat(7) + "hat 9 0;" + "ground 1 0;".repeat(6) + "man 9;");
        Check.law(all, "hours/23*(force/9)");
        Check.due("48 pairs, told apart at last", all.look(0, 0), 23);
        Check.due("42 are left", all.look(0, 1), 42);
    }

    private static void looksWithoutPairs() {
        StormHats x = Check.made("man 9;");
        Check.due("the first hour", x.look(0, 0), 0);
        Check.due("none is left", x.look(0, 1), 0);
        Check.book(x, "1 1;0 0;3 3;");
        Check.due("the first in no line", x.look(0, 0), 2);
        Check.due("none is left", x.look(0, 1), 0);
    }

    private static StormHats fleet() {
        StormHats x = Check.made("hat 10 0;hat 7 0;hat 4 0;hat 4 0;ground 0 0;man 9;man 9;man 9;man 9;man 9;");
        Check.doing(x, "wear 0 0;wear 1 1;wear 2 2;wear 3 3;", 4, 0);
        return x;
    }

    // FLEET for no fish: nobody
    private static void fleetForNone() {
        Check.due("nobody", fleet().fleet(0, 0), 0);
        Check.due("nobody is there", Check.made("ground 1 1;").fleet(0, 0), 0);
    }

    // "the fewest .. MEN"; "of as few the least bits": they take 6, 7, 8 and 8
    private static void fleetLeastBits() {
        int[] due = {0, 1, 1, 1, 1, 1, 1, 2, 4, 3, 3, 3, 3, 3, 5, 6, 12, 7, 7, 7, 7, 7, 13, 14, 15, 15, 15, 15, 15, 15};
        StormHats x = fleet();
        for (int n = 0; n < due.length; n++) {
            Check.due("fleet for " + n, x.fleet(0, n), due[n]);
        }
    }

    // FLEET: "NONE"
    private static void fleetNone() {
        Check.due("one too many", fleet().fleet(0, 30), -1);
        Check.due("far too many", fleet().fleet(0, 99), -1);
        Check.due("nobody is there", Check.made("ground 1 1;").fleet(0, 1), -1);
        StormHats all = Check.made("hat 1 0;".repeat(6) + "ground 0 0;" + "man 9;".repeat(6));
        Check.doing(all, "wear 0 0;wear 1 1;wear 2 2;wear 3 3;wear 4 4;wear 5 5;", 6, 0);
        Check.due("all six", all.fleet(0, 54), 63);
        Check.due("one too many", all.fleet(0, 55), -1);
        Check.law(all, "99");
        Check.due("none take any", all.fleet(0, 1), -1);
        Check.due("nobody is needed", all.fleet(0, 0), 0);
    }

    // FLEET: "living MEN who wear a HAT"
    private static void fleetOfThoseWhoCan() {
        StormHats x = fleet();
        Check.doing(x, "die 3;doff 2;", 2, 0);
        Check.due("two can", x.fleet(0, 13), 3);
        Check.due("two can", x.fleet(0, 14), -1);
        Check.doing(x, "wear 4 2;", 1, 0);
        Check.due("another one", x.fleet(0, 14), 17);
    }

    // FLEET: "each ALONE there with his in a first HOUR (.. however many there are)"
    private static void fleetHoweverManyFish() {
        StormHats x = fleet();
        Check.due("no fish are there", x.ground(0, 0), 0);
        Check.due("all the same", x.fleet(0, 8), 4);
        Check.law(x, "(9-force)*10+boat-9");
        Check.due("the first hour's sea", x.fleet(0, 9), 1);
    }

    // fleet: "n (0 to 99)"
    private static void fleetNumbers() {
        StormHats x = fleet();
        for (int wrong : new int[] {-1, 100, Integer.MIN_VALUE, Integer.MAX_VALUE}) {
            Check.illegal(x, "fleet, n " + wrong, () -> x.fleet(0, wrong));
            Check.missing(x, "fleet, ground " + wrong, () -> x.fleet(wrong, wrong));
        }
        Check.missing(x, "fleet, ground 1", () -> x.fleet(1, 0));
    }

    // SQUALL: "q (0 to 16), n (0 to 12): above (part 0), below (part 1), in least terms"
    private static void squalls() {
        StormHats x = new StormHats();
        for (int q = 0; q <= 16; q++) {
            for (int n = 0; n <= 12; n += q % 4 == 0 ? 1 : 4) {
                BigInteger rest = BigInteger.valueOf(16 - q);
                BigInteger above = rest.pow(n);
                if (n > 0) {
                    above = above.add(rest.pow(n - 1).multiply(BigInteger.valueOf((long) q * n)));
                }
                BigInteger below = BigInteger.valueOf(16).pow(n);
                BigInteger common = above.gcd(below);
                Check.due("squall " + q + " " + n, x.squall(q, n, 0), above.divide(common).longValueExact());
                Check.due("squall " + q + " " + n + ", below", x.squall(q, n, 1), below.divide(common).longValueExact());
            }
        }
        StormHats y = new StormHats();
        for (int wrong : new int[] {-1, 17, Integer.MIN_VALUE, Integer.MAX_VALUE}) {
            Check.illegal(y, "squall, q " + wrong, () -> y.squall(wrong, 0, 0));
            Check.illegal(y, "squall, n " + wrong, () -> y.squall(0, wrong, 0));
            Check.illegal(y, "squall, part " + wrong, () -> y.squall(0, 0, wrong));
        }
        Check.illegal(y, "squall, n 13", () -> y.squall(0, 13, 0));
        Check.illegal(y, "squall, part 2", () -> y.squall(0, 0, 2));
    }

    // "GROUND of two by v, w (0 to 99)"
    private static void twoAtOneGround() {
        StormHats x = new StormHats();
        for (int v : new int[] {0, 1, 2, 3, 50, 98, 99}) {
            for (int w : new int[] {0, 1, 49, 99}) {
                Check.due("rests by " + v + " " + w, x.two(v, w, 0), v == 0 ? 4 : 2);
                Check.due("the first by " + v + " " + w, x.two(v, w, 1), 0);
                Check.due("together by " + v + " " + w, x.two(v, w, 2), 2 * v);
            }
        }
        for (int wrong : new int[] {-1, 100, Integer.MIN_VALUE, Integer.MAX_VALUE}) {
            Check.illegal(x, "two, v " + wrong, () -> x.two(wrong, 0, 0));
            Check.illegal(x, "two, w " + wrong, () -> x.two(0, wrong, 0));
            Check.illegal(x, "two, what " + wrong, () -> x.two(0, 0, wrong));
        }
        Check.illegal(x, "two, what 3", () -> x.two(0, 0, 3));
    }

    /** They landed 27, 18, 9 and 0. */
    private static StormHats landed() {
        StormHats x = Check.made("hat 1 4;hat 1 4;hat 1 4;ground 999 0;man 9;man 9;man 9;man 9;");
        Check.doing(x, "wear 0 0;sail 0 0;hour;wear 1 1;sail 1 0;hour;wear 2 2;sail 2 0;hour;", 9, 0);
        return x;
    }

    private static void shares() {
        StormHats x = landed();
        shared(x, 15, 0, 0, 0, 0, 0);
        shared(x, 15, 2, 0, 0, 0, 0);
        shared(x, 15, 3, 1, 1, 1, 0);
        shared(x, 15, 26, 8, 8, 8, 0);
        shared(x, 15, 27, 9, 9, 9, 0);
        shared(x, 15, 28, 9, 9, 9, 0);
        shared(x, 15, 29, 10, 10, 9, 0);
        shared(x, 15, 44, 17, 17, 9, 0);
        shared(x, 15, 45, 18, 18, 9, 0);
        shared(x, 15, 46, 19, 18, 9, 0);
        shared(x, 15, 53, 26, 18, 9, 0);
        shared(x, 15, 54, 27, 18, 9, 0);
        shared(x, 15, 9999, 27, 18, 9, 0);
        shared(x, 1, 26, 26, 0, 0, 0);
        shared(x, 10, 17, 0, 17, 0, 0);
        shared(x, 8, 9999, 0, 0, 0, 0);
        shared(x, 0, 9999, 0, 0, 0, 0);
        sharesNumbers();
        shareOfAllFish();
    }

    /** As many fish as there can be, landed by one MAN. */
    private static void shareOfAllFish() {
        StormHats x = Check.made("hat 1 4;hat 1 4;" + "ground 999 0;".repeat(6) + "man 9;man 9;");
        Check.doing(x, "wear 1 1;sail 1 0;hour;home 1;wear 0 0;", 5, 0);
        for (int ground = 0; ground < 6; ground++) {
            Check.doing(x, "sail 0 " + ground + ";again 4[again 28[hour;];];", 113, 0);
        }
        Check.due("none is left", x.told(7), 0);
        shared(x, 3, 9999, 5985, 9);
        shared(x, 3, 5993, 5984, 9);
        shared(x, 1, 5986, 5985, 0);
        shared(x, 1, 5984, 5984, 0);
    }

    private static void shared(StormHats x, int men, int n, int... due) {
        for (int man = 0; man < due.length; man++) {
            Check.due("share of " + man + " by " + men + ", " + n, x.share(man, men, n), due[man]);
        }
    }

    // share: "n (0 to 9,999)"; "(0, if he is none of them)"; "IllegalArgumentException: bits of no MEN"
    private static void sharesNumbers() {
        StormHats x = landed();
        for (int wrong : new int[] {-1, 10000, Integer.MIN_VALUE, Integer.MAX_VALUE}) {
            Check.illegal(x, "share, n " + wrong, () -> x.share(0, 1, wrong));
            Check.illegal(x, "share, men " + wrong, () -> x.share(0, wrong, 0));
            Check.missing(x, "share, man " + wrong, () -> x.share(wrong, wrong, wrong));
        }
        Check.illegal(x, "share, bit of man 4", () -> x.share(0, 16, 0));
        Check.illegal(x, "share, bit of man 4 with others", () -> x.share(0, 17, 0));
        Check.illegal(x, "share, bits and n", () -> x.share(0, 16, -1));
        Check.missing(x, "share, man 4", () -> x.share(4, 16, 0));
        StormHats six = Check.made("man 9;".repeat(6));
        Check.due("six men", six.share(5, 63, 9), 0);
        Check.illegal(six, "share, bit of man 6", () -> six.share(0, 64, 0));
    }

    // best: "of alike ones the first"; "NONE both: none landed any"
    private static void bests() {
        StormHats none = Check.made("hat 1 0;ground 0 0;man 9;");
        Check.doing(none, "wear 0 0;sail 0 0;hour;", 3, 0);
        Check.due("none landed any", none.best(0), -1);
        Check.due("none landed any", none.best(1), -1);
        StormHats x = Check.made("hat 1 4;hat 1 4;hat 1 4;ground 19 0;ground 1 0;man 9;man 9;man 9;");
        Check.doing(x, "wear 2 2;sail 2 1;hour;", 3, 0);
        Check.due("one fish", x.best(0), 2);
        Check.due("one fish", x.best(1), 1);
        Check.doing(x, "wear 1 1;wear 0 0;sail 1 0;hour;home 1;sail 0 0;hour;", 7, 0);
        Check.due("of two alike", x.best(0), 0);
        Check.due("of two alike", x.best(1), 9);
        Check.doing(x, "home 0;sail 1 0;hour;", 3, 0);
        Check.due("one more", x.best(0), 1);
        Check.due("one more", x.best(1), 10);
        for (int wrong : new int[] {-1, 2, Integer.MIN_VALUE, Integer.MAX_VALUE}) {
            Check.illegal(x, "best " + wrong, () -> x.best(wrong));
        }
    }

    // from: "HATS (bits) from side D (0 to 7)"
    private static void sides() {
        StormHats x = Check.made("hat 1 0;hat 1 7;hat 1 7;hat 1 3;hat 1 0;hat 1 0;hat 1 0;hat 1 0;");
        Check.due("side 0", x.from(0), 241);
        Check.due("side 3", x.from(3), 8);
        Check.due("side 7", x.from(7), 6);
        Check.due("none", x.from(1), 0);
        Check.due("no hats", Check.made("man 9;").from(0), 0);
        for (int wrong : new int[] {-1, 8, Integer.MIN_VALUE, Integer.MAX_VALUE}) {
            Check.illegal(x, "from " + wrong, () -> x.from(wrong));
        }
    }

    private static long drawn(long seed) {
        return seed * 1103515245L + 12345L & 0xFFFFFFFFL;
    }

    // "DRAW: the SEED (32 bits) becomes itself times 1,103,515,245, and 12,345 (it wraps); its bits 16 to 30, what is left of them"
    private static void seasonDraws() {
        StormHats x = Check.made("hat 1 0;hat 1 0;hat 1 0;hat 1 0;hat 1 0;ground 99 0;ground 99 1;man 90;man 91;man 92;");
        Check.law(x, "angle*30+boat%10*10");
        int[] seeds = {0, 1, -1, 12345, 65535, 65536, Integer.MAX_VALUE, Integer.MIN_VALUE, Integer.MIN_VALUE + 1, -65536};
        for (int seed : seeds) {
            long one = drawn(seed & 0xFFFFFFFFL);
            long two = drawn(one);
            long three = drawn(two);
            long four = drawn(three);
            int man = (int) (one / 65536 % 32768 % 3);
            int hat = (int) (two / 65536 % 32768 % 5);
            int ground = (int) (three / 65536 % 32768 % 2);
            int home = (int) (four / 65536 % 32768 % 16);
            int fish = 9 - 3 * ground - man;
            Check.due("man and ground by seed " + seed, x.season(seed, 0, 1, 0), fish);
            Check.due("left by seed " + seed, x.season(seed, 0, 1, 2), 198 - fish);
            Check.due("hat by seed " + seed, x.season(seed, 0, 1, 3), 1 << hat);
            Check.due("living by seed " + seed, x.season(seed, 0, 1, 1), 7);
            Check.due("not below: seed " + seed, x.season(seed, home, 1, 0), fish);
            Check.due("below: seed " + seed, x.season(seed, home + 1, 1, 0), 0);
        }
    }

    // "DRAW by 16 below Q: home of this MAN (if it can)"
    private static void seasonHome() {
        StormHats x = Check.made("hat 1 4;ground 999 0;man 99;");
        Check.due("never home", x.season(7, 0, 96, 0), 864);
        Check.due("always home", x.season(7, 16, 96, 0), 0);
        Check.due("he has the hat on", x.season(7, 16, 96, 3), 1);
    }

    // "wear, then sail (each if it can be done)"
    private static void seasonOfWhatCanBeDone() {
        StormHats x = Check.made("hat 1 4;ground 999 0;man 99;man 99;");
        Check.doing(x, "die 0;wear 1 0;sail 1 0;", 3, 0);
        Check.due("the dead are drawn, and do nothing", x.season(3, 0, 96, 0), 864);
        Check.due("who lives", x.season(3, 0, 96, 1), 2);
        StormHats y = Check.made("hat 1 4;ground 999 0;man 99;");
        Check.doing(y, "wear 0 0;", 1, 0);
        Check.due("he wears it, and sails", y.season(3, 0, 5, 0), 45);
        StormHats z = Check.made("hat 12 0;ground 999 0;man 35;");
        Check.due("dead in the first hour", z.season(3, 0, 96, 1), 0);
        Check.due("wears none", z.season(3, 0, 96, 3), 0);
        Check.due("none landed", z.season(3, 0, 96, 0), 0);
        Check.due("all left", z.season(3, 0, 96, 2), 999);
    }

    // "Without MEN, HATS or GROUNDS nothing is DRAWN, HOURS go by"
    private static void seasonWithoutSomething() {
        String[] coasts = {"", "hat 1 0;ground 7 0;", "hat 1 0;man 9;", "ground 7 0;man 9;", "man 9;", "hat 1 0;", "ground 7 0;"};
        for (String text : coasts) {
            StormHats x = Check.made(text);
            int living = text.contains("man") ? 1 : 0;
            int left = text.contains("ground") ? 7 : 0;
            Check.due("landed on " + text, x.season(1, 8, 96, 0), 0);
            Check.due("living on " + text, x.season(1, 8, 96, 1), living);
            Check.due("left on " + text, x.season(1, 8, 96, 2), left);
            Check.due("worn on " + text, x.season(1, 8, 96, 3), 0);
            Check.due("least on " + text, x.span(1, 20, 8, 96, 0), 0);
            Check.due("most on " + text, x.span(1, 20, 8, 96, 1), 0);
            Check.due("span on " + text, x.span(1, 20, 8, 96, 2), 20);
        }
        StormHats hatted = Check.made("hat 1 0;man 9;");
        Check.doing(hatted, "wear 0 0;", 1, 0);
        Check.due("worn all the same", hatted.season(1, 8, 96, 3), 1);
    }

    // season: "HOURS (1 to 96), Q (0 to 16)"
    private static void seasonNumbers() {
        StormHats x = Check.made("hat 1 4;ground 999 0;man 99;");
        Check.due("one hour", x.season(1, 0, 1, 0), 9);
        Check.due("96 hours", x.season(1, 0, 96, 0), 864);
        for (int wrong : new int[] {-1, 97, Integer.MIN_VALUE, Integer.MAX_VALUE}) {
            Check.illegal(x, "season, q " + wrong, () -> x.season(1, wrong, 1, 0));
            Check.illegal(x, "season, hours " + wrong, () -> x.season(1, 0, wrong, 0));
            Check.illegal(x, "season, what " + wrong, () -> x.season(1, 0, 1, wrong));
        }
        Check.illegal(x, "season, q 17", () -> x.season(1, 17, 1, 0));
        Check.illegal(x, "season, hours 0", () -> x.season(1, 0, 0, 0));
        Check.illegal(x, "season, what 4", () -> x.season(1, 0, 1, 4));
    }

    // span: "so many SEEDS (1 to 20 ..)"
    private static void spanNumbers() {
        StormHats x = Check.made("hat 1 4;ground 999 0;man 99;");
        Check.due("one seed, one hour", x.span(1, 1, 0, 1, 0), 9);
        Check.due("20 seeds, 96 hours", x.span(1, 20, 0, 96, 1), 864);
        Check.due("all live", x.span(1, 20, 16, 96, 2), 20);
        for (int wrong : new int[] {-1, 97, Integer.MIN_VALUE, Integer.MAX_VALUE}) {
            Check.illegal(x, "span, many " + wrong, () -> x.span(1, wrong, 0, 1, 0));
            Check.illegal(x, "span, q " + wrong, () -> x.span(1, 1, wrong, 1, 0));
            Check.illegal(x, "span, hours " + wrong, () -> x.span(1, 1, 0, wrong, 0));
            Check.illegal(x, "span, what " + wrong, () -> x.span(1, 1, 0, 1, wrong));
        }
        Check.illegal(x, "span, many 0", () -> x.span(1, 0, 0, 1, 0));
        Check.illegal(x, "span, many 21", () -> x.span(1, 21, 0, 1, 0));
        Check.illegal(x, "span, q 17", () -> x.span(1, 1, 17, 1, 0));
        Check.illegal(x, "span, hours 0", () -> x.span(1, 1, 0, 0, 0));
        Check.illegal(x, "span, what 3", () -> x.span(1, 1, 0, 1, 3));
    }

    // span: "(.. seed, seed and 1, ..)", "0 the least landed by all then, 1 the most"
    private static void spanSeeds() {
        for (int first : new int[] {5, -3, Integer.MAX_VALUE - 4, Integer.MIN_VALUE}) {
            StormHats x = Check.made(SMALL);
            int least = 9999;
            int most = 0;
            for (int i = 0; i < 20; i++) {
                int fish = x.season(first + i, 5, 20, 0);
                least = Math.min(least, fish);
                most = Math.max(most, fish);
                if (i == 0 || i == 7 || i == 19) {
                    Check.due("least of " + (i + 1) + " from " + first, x.span(first, i + 1, 5, 20, 0), least);
                    Check.due("most of " + (i + 1) + " from " + first, x.span(first, i + 1, 5, 20, 1), most);
                }
            }
        }
    }

    // span: "2 by how many all MEN live then who live now"
    private static void spanOfThoseWhoLive() {
        StormHats x = Check.made("hat 4 0;hat 5 3;ground 50 0;ground 40 4;man 60;man 20;man 9;");
        Check.doing(x, "die 2;", 1, 0);
        int all = 0;
        for (int i = 0; i < 20; i++) {
            all += x.season(i, 3, 6, 1) == 3 ? 1 : 0;
        }
        Check.due("some do", all > 0 && all < 20 ? 1 : 0, 1);
        Check.due("how many", x.span(0, 20, 3, 6, 2), all);
        Check.doing(x, "die 0;die 1;", 2, 0);
        Check.due("nobody lives now", x.span(0, 20, 3, 6, 2), 20);
    }
}
