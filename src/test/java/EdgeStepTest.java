/** What the document says of STEPS, sentence by sentence: at first, refusals, deaths, the last HOUR, the last fish. */
public final class EdgeStepTest {
    private static final String SMALL = "hat 4 0;hat 5 0;ground 50 0;ground 40 0;man 60;man 50;heir 0 1;";

    public static void main(String[] args) {
        atFirst();
        refusedStepsChangeNothing();
        twoHundredSteps();
        wearing();
        doffing();
        sailing();
        goingHome();
        oiling();
        dying();
        heirs();
        lastHour();
        seasOfAnHour();
        deathsOfAnHour();
        fishOfAnHour();
        Check.end();
    }

    // "It is HOUR 0 at first; all MEN live, are at home, wear nothing, have landed nothing; no boat is hurt, no HAT is oiled"
    private static void atFirst() {
        StormHats x = Check.made(SMALL);
        Check.same("at first", Check.daysOf(x), "hour 0, hat -1 0, hat -1 0, ground 50 0, ground 40 0, "
                + "man 0 -1 -1 0 0 1, man 0 -1 -1 0 0 1");
        Check.due("nobody at a ground", x.told(5), 0);
        Check.due("no hat worn", x.told(6), 0);
        Check.due("all fish", x.told(7), 90);
        Check.due("nothing landed", x.told(8), 0);
        Check.doing(x, "wear 0 0;sail 0 0;oil 1;hour;die 0;", 5, 0);
        Check.coast(x, SMALL);
        Check.doing(x, "wear 0 0;wear 1 1;sail 0 0;sail 1 1;hour;", 5, 0);
        Check.coast(x, SMALL);
        Check.same("at first again", Check.daysOf(x), "hour 0, hat -1 0, hat -1 0, ground 50 0, ground 40 0, "
                + "man 0 -1 -1 0 0 1, man 0 -1 -1 0 0 1");
        Check.coast(x, "ground 7 0;");
        Check.due("fish of fewer grounds", x.told(7), 7);
        Check.due("no men, no landed fish", x.told(8), 0);
    }

    private static void refused(String before, String step) {
        StormHats x = Check.made(SMALL);
        Check.work(x, before);
        Check.due("all were done: " + before, x.told(10), 0);
        String days = Check.daysOf(x);
        Check.doing(x, step, 0, 1);
        Check.same(before + " and then " + step, Check.daysOf(x), days);
        Check.due("a work all the same", x.count(2), 2);
    }

    private static void done(String before, String step) {
        StormHats x = Check.made(SMALL);
        Check.work(x, before);
        Check.due("all were done: " + before, x.told(10), 0);
        Check.doing(x, step, 1, 0);
    }

    // "one that can't be done is REFUSED, and changes nothing"
    private static void refusedStepsChangeNothing() {
        refused("wear 0 0;sail 0 0;hour;wear 1 1;sail 1 1;", "wear 0 1;");
        refused("wear 0 0;sail 0 0;hour;wear 1 1;sail 1 1;", "wear 0 0;");
        refused("wear 0 0;sail 0 0;hour;hour;", "sail 0 0;");
        refused("wear 0 0;sail 0 0;hour;doff 0;", "sail 0 1;");
        refused("wear 0 0;sail 0 0;hour;home 0;", "home 0;");
        refused("again 9[oil 0;];", "oil 0;");
        refused("wear 0 0;sail 0 0;hour;die 0;", "die 0;");
        StormHats x = Check.made(SMALL);
        Check.doing(x, "doff 0;wear 0 0;wear 1 0;sail 1 0;sail 0 0;home 1;oil 0;", 3, 4);
        Check.due("those behind are done", x.hat(0, 3), 1);
    }

    // "200 STEPS at most are begun by one WORK (an again, too, each time it is come to; REFUSED ones, too)"
    private static void twoHundredSteps() {
        // 1 + 9 * 21 are begun by the first of these.
        hoursBy("again 9[again 20[hour;];];again 9[hour;];hour;", 189, 0);
        hoursBy("again 9[again 20[hour;];];again 8[hour;];hour;", 189, 0);
        hoursBy("again 9[again 20[hour;];];again 8[hour;];hour;hour;", 189, 0);
        hoursBy("again 9[again 20[hour;];];again 7[hour;];hour;", 188, 0);
        hoursBy("again 9[again 20[hour;];];again 9[hour;];again 1[hour;];", 189, 0);
        hoursBy("again 30[again 30[again 30[hour;];];];", 191, 0);
        hoursBy("again 9[again 20[doff 0;];];again 8[home 0;];hour;hour;", 1, 188);
        hoursBy("again 9[again 20[doff 0;];];again 9[home 0;];hour;hour;", 0, 189);
        // 1 + 7 * 28 are begun by the first of these, however often the innermost one would go round.
        hoursBy("again 7[again 27[again 0[];];];again 1[];hour;hour;hour;", 2, 0);
        hoursBy("again 7[again 27[again 0[];];];again 1[];again 0[];hour;hour;", 1, 0);
        hoursBy("again 7[again 27[again 30[];];];again 30[];hour;hour;hour;", 2, 0);
        StormHats x = Check.made(SMALL);
        Check.due("each work has 200 of its own", Check.work(x, "again 30[again 30[hour;];];"), 192);
        Check.due("each work has 200 of its own", Check.work(x, "again 30[again 30[hour;];];"), 192);
        Check.due("hours", x.told(3), 384);
    }

    private static void hoursBy(String work, int hours, int refused) {
        StormHats x = Check.made(SMALL);
        Check.doing(x, work, hours, refused);
        Check.due("hours by " + work, x.told(3), hours);
    }

    // "wear: M has HAT H on, and no other one then (REFUSED, if M is DEAD, or anybody wears H)"
    private static void wearing() {
        StormHats x = Check.made(SMALL);
        Check.doing(x, "wear 0 0;wear 0 1;", 2, 0);
        Check.due("the other one", x.man(0, 2), 1);
        Check.due("none else", x.told(6), 2);
        Check.due("nobody has it", x.hat(0, 2), -1);
        done("wear 0 0;wear 0 1;", "wear 1 0;");
        done("wear 0 0;doff 0;", "wear 1 0;");
        done("wear 0 0;sail 0 0;", "wear 0 1;");
        refused("die 0;", "wear 0 0;");
        refused("wear 1 0;", "wear 0 0;");
        refused("wear 0 0;", "wear 0 0;");
    }

    // "doff: he has none on (REFUSED, if he has none)"
    private static void doffing() {
        StormHats x = Check.made(SMALL);
        Check.doing(x, "wear 0 0;sail 0 1;hour;doff 0;", 4, 0);
        Check.due("none on", x.man(0, 2), -1);
        Check.due("still there", x.man(0, 3), 1);
        Check.due("hours there", x.man(0, 4), 1);
        refused("", "doff 0;");
        refused("wear 0 0;doff 0;", "doff 0;");
        refused("wear 0 0;die 0;", "doff 0;");
    }

    // "sail: he is at GROUND G, hours 0 (REFUSED, if he is DEAD, there already, or wears nothing)"
    private static void sailing() {
        StormHats x = Check.made(SMALL);
        Check.doing(x, "wear 0 0;sail 0 0;hour;hour;", 4, 0);
        Check.due("hours", x.man(0, 4), 2);
        Check.doing(x, "sail 0 1;", 1, 0);
        Check.due("there", x.man(0, 3), 1);
        Check.due("hours anew", x.man(0, 4), 0);
        Check.doing(x, "hour;home 0;sail 0 1;", 3, 0);
        Check.due("hours anew behind home", x.man(0, 4), 0);
        refused("wear 0 0;die 0;", "sail 0 0;");
        refused("wear 0 0;sail 0 0;hour;", "sail 0 0;");
        refused("", "sail 0 0;");
        refused("wear 0 0;sail 0 0;doff 0;", "sail 0 1;");
        refused("wear 0 0;sail 0 0;doff 0;", "sail 0 0;");
    }

    // "home: he is at home (REFUSED, if he is, or is DEAD)"
    private static void goingHome() {
        StormHats x = Check.made(SMALL);
        Check.doing(x, "wear 0 0;sail 0 0;hour;home 0;", 4, 0);
        Check.due("at home", x.man(0, 3), -1);
        Check.due("nobody there", x.ground(0, 2), 0);
        Check.due("he has his hat on", x.man(0, 2), 0);
        Check.due("hours at no ground", x.man(0, 4), 0);
        done("wear 0 0;sail 0 0;doff 0;", "home 0;");
        refused("", "home 0;");
        refused("wear 0 0;sail 0 0;home 0;", "home 0;");
        refused("wear 0 0;sail 0 0;die 0;", "home 0;");
    }

    // "oil: H is oiled once more, 9 times at most (REFUSED, if it is oiled 9 times)"
    private static void oiling() {
        StormHats x = Check.made("hat 12 0;hat 1 0;ground 9 0;man 99;");
        Check.doing(x, "again 8[oil 0;];", 8, 0);
        Check.due("oiled 8 times", x.hat(0, 3), 8);
        Check.doing(x, "oil 0;", 1, 0);
        Check.due("oiled 9 times", x.hat(0, 3), 9);
        Check.doing(x, "oil 0;", 0, 1);
        Check.due("9 at most", x.hat(0, 3), 9);
        Check.due("the other one is not", x.hat(1, 3), 0);
        Check.law(x, "force");
        Check.doing(x, "wear 0 0;sail 0 0;", 2, 0);
        Check.due("force with its oil", x.sea(0), 21);
        done("wear 0 0;", "oil 0;");
        done("die 0;die 1;", "oil 0;");
    }

    // "die: M is DEAD .. (REFUSED, if he is DEAD)"
    private static void dying() {
        StormHats x = Check.made(SMALL);
        Check.doing(x, "wear 0 0;sail 0 0;hour;die 0;", 4, 0);
        Check.due("dead", x.man(0, 7), 0);
        Check.due("living", x.told(4), 2);
        Check.due("at no ground", x.man(0, 3), -1);
        Check.due("nobody at a ground", x.told(5), 0);
        Check.due("no hours there", x.man(0, 4), 0);
        Check.due("wears nothing", x.man(0, 2), -1);
        Check.due("what he landed", x.man(0, 5), 8);
        Check.due("his hurt", x.man(0, 1), 12);
        refused("die 0;", "die 0;");
        done("", "die 0;");
    }

    // "his HAT, if he wears one, is worn by his heir from now on, if he has one who lives and wears nothing, else by nobody"
    private static void heirs() {
        hatOf("wear 0 0;", "die 0;", 1);
        hatOf("wear 0 0;wear 1 1;", "die 0;", -1);
        hatOf("wear 0 0;die 1;", "die 0;", -1);
        hatOf("wear 1 0;", "die 1;", -1);
        hatOf("wear 0 0;wear 1 1;doff 1;", "die 0;", 1);
        StormHats none = Check.made(SMALL);
        Check.doing(none, "wear 1 1;die 0;", 2, 0);
        Check.due("he wore none: his heir keeps his own", none.man(1, 2), 1);
        Check.doing(none, "doff 1;", 1, 0);
        StormHats own = Check.made("hat 1 0;man 9;heir 0 0;");
        Check.doing(own, "wear 0 0;die 0;", 2, 0);
        Check.due("his own heir is dead", own.hat(0, 2), -1);
        StormHats bare = Check.made(SMALL);
        Check.doing(bare, "die 0;", 1, 0);
        Check.due("without a hat there is none", bare.man(1, 2), -1);
        StormHats least = Check.made("hat 1 0;man 9;man 9;heir 1 0;");
        Check.doing(least, "wear 1 0;die 1;", 2, 0);
        Check.due("man 0 is the heir", least.man(0, 2), 0);
        StormHats on = Check.made("hat 1 0;man 9;man 9;man 9;heir 0 1;heir 1 2;");
        Check.doing(on, "die 1;wear 0 0;die 0;", 3, 0);
        Check.due("not the heir of the heir", on.man(2, 2), -1);
    }

    private static void hatOf(String before, String step, int wearer) {
        StormHats x = Check.made(SMALL);
        Check.work(x, before);
        Check.doing(x, step, 1, 0);
        Check.due("who has hat 0 by " + before + step, x.hat(0, 2), wearer);
    }

    // "hour (REFUSED from HOUR 900 on)"
    private static void lastHour() {
        StormHats x = Check.made("hat 1 4;ground 999 0;man 9;");
        for (int i = 0; i < 4; i++) {
            Check.doing(x, "again 30[again 30[hour;];];", 192, 0);
        }
        Check.doing(x, "again 5[again 26[hour;];];hour;", 131, 0);
        Check.due("hour 899", x.told(3), 899);
        Check.doing(x, "wear 0 0;sail 0 0;hour;", 3, 0);
        Check.due("hour 900", x.told(3), 900);
        Check.due("the last hour's fish", x.told(8), 9);
        String days = Check.daysOf(x);
        Check.doing(x, "hour;again 5[hour;];", 0, 6);
        Check.same("nothing more", Check.daysOf(x), days);
        Check.doing(x, "doff 0;", 1, 0);
    }

    // "all who are at a GROUND have their SEA (0, if they wear nothing), by all as the HOUR begins"
    private static void seasOfAnHour() {
        StormHats x = Check.made("hat 9 0;hat 9 0;hat 9 0;ground 50 0;man 99;man 99;man 99;man 99;");
        Check.law(x, "fish+others*10+hours*7+hour");
        Check.doing(x, "wear 0 0;wear 1 1;wear 2 2;sail 0 0;sail 1 0;sail 2 0;doff 2;hour;", 8, 0);
        Check.due("50 fish, 2 others", x.man(0, 1), 70);
        Check.due("50 fish, 2 others all the same", x.man(1, 1), 70);
        Check.due("wears nothing: 0", x.man(2, 1), 0);
        Check.due("at home: none", x.man(3, 1), 0);
        Check.due("takes 2", x.man(0, 5), 2);
        Check.due("takes 2", x.man(1, 5), 2);
        Check.due("takes 9", x.man(2, 5), 9);
        StormHats y = Check.made("hat 9 0;hat 9 0;ground 50 0;man 1;man 99;");
        Check.law(y, "others*20");
        Check.doing(y, "wear 0 0;wear 1 1;sail 0 0;sail 1 0;hour;", 5, 0);
        Check.due("who dies in it was there as it began", y.man(1, 1), 20);
        Check.due("he is alone then", y.sea(1), 0);
    }

    // "who is hurt more than his boat bears then, is DEAD (as by die, in order of their numbers)"
    private static void deathsOfAnHour() {
        StormHats x = Check.made("hat 9 0;ground 50 0;man 27;man 26;");
        Check.doing(x, "wear 0 0;sail 0 0;hour;", 3, 0);
        Check.due("as much as his boat bears: he lives", x.man(0, 7), 1);
        Check.due("and takes fish", x.man(0, 5), 7);
        Check.doing(x, "home 0;doff 0;wear 1 0;sail 1 0;hour;", 5, 0);
        Check.due("one more: he is dead", x.man(1, 7), 0);
        Check.due("and takes none", x.man(1, 5), 0);
        Check.due("his hurt", x.man(1, 1), 27);
        Check.due("no hour longer", x.man(1, 4), 0);
        // 0 and 1 die; 2, who is bare, is the heir of both: that of 0 comes first.
        StormHats y = Check.made("hat 9 0;hat 8 0;hat 1 0;ground 50 0;man 1;man 1;man 99;heir 0 2;heir 1 2;");
        Check.doing(y, "wear 2 2;sail 2 0;doff 2;wear 0 1;wear 1 0;sail 0 0;sail 1 0;hour;", 8, 0);
        Check.due("living", y.told(4), 4);
        Check.due("the first one's hat", y.man(2, 2), 1);
        Check.due("that of the next is worn by nobody", y.hat(0, 2), -1);
        // 1 dies behind 0, to whom he would leave his hat.
        StormHats z = Check.made("hat 9 0;hat 8 0;ground 50 0;man 1;man 1;heir 1 0;heir 0 1;");
        Check.doing(z, "wear 0 0;wear 1 1;sail 0 0;sail 1 0;hour;", 5, 0);
        Check.due("all are dead", z.told(4), 0);
        Check.due("no hat is worn", z.told(6), 0);
    }

    // "each of the others takes 9 fish less SEA by 10 (cut) from his GROUND (as many as are left, in order of their numbers)"
    private static void fishOfAnHour() {
        int[] seas = {0, 1, 9, 10, 11, 89, 90, 98, 99};
        int[] fish = {9, 9, 9, 8, 8, 1, 0, 0, 0};
        for (int i = 0; i < seas.length; i++) {
            StormHats x = Check.made("hat 1 0;ground 50 0;man 99;");
            Check.law(x, "" + seas[i]);
            Check.doing(x, "wear 0 0;sail 0 0;hour;", 3, 0);
            Check.due("fish by " + seas[i], x.man(0, 5), fish[i]);
            Check.due("left by " + seas[i], x.ground(0, 0), 50 - fish[i]);
            Check.due("an hour longer", x.man(0, 4), 1);
        }
        StormHats y = Check.made("hat 1 4;hat 1 4;hat 1 4;ground 13 0;ground 9 0;man 9;man 9;man 9;");
        Check.doing(y, "wear 0 0;wear 1 1;wear 2 2;sail 2 0;sail 1 0;sail 0 0;hour;", 7, 0);
        Check.due("0 takes first", y.man(0, 5), 9);
        Check.due("1 what is left", y.man(1, 5), 4);
        Check.due("2 none", y.man(2, 5), 0);
        Check.due("but is there an hour longer", y.man(2, 4), 1);
        Check.due("none is left", y.ground(0, 0), 0);
        Check.due("the other ground has all", y.ground(1, 0), 9);
        Check.doing(y, "sail 2 1;hour;", 2, 0);
        Check.due("just as many as are left", y.man(2, 5), 9);
        Check.due("none is left", y.told(7), 0);
        Check.due("all landed", y.told(8), 22);
        Check.due("as told", y.ground(1, 3), 9);
    }
}
