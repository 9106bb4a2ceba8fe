/** Promises 5, 8 to 13 and 33 to 36: what STEPS do, what is told of it, and how it is undone. */
public final class WorkTest {
    public static void main(String[] args) {
        wearing();
        sailing();
        oiling();
        dying();
        hours();
        deathsInAnHour();
        facts();
        loops();
        undoing();
        images();
        refusals();
        Check.end();
    }

    private static StormHats coast(String text) {
        StormHats x = new StormHats();
        Check.due("coast " + text, Check.coast(x, text) >= 0 ? 1 : 0, 1);
        return x;
    }

    private static void doing(StormHats x, String work, int done, int refused) {
        Check.due("work " + work, Check.work(x, work), done);
        Check.due("refused by " + work, x.told(10), refused);
    }

    private static void wearing() {
        StormHats x = coast("hat 5 0;hat 6 0;ground 50 0;man 99;man 98;");
        doing(x, "wear 0 0;wear 0 0;wear 1 0;wear 0 1;wear 1 0;", 3, 2);
        Check.due("hat of 0", x.man(0, 2), 1);
        Check.due("hat of 1", x.man(1, 2), 0);
        Check.due("who wears 1", x.hat(1, 2), 0);
        Check.due("worn", x.told(6), 3);
        doing(x, "doff 0;doff 0;", 1, 1);
        Check.due("no hat", x.man(0, 2), -1);
        Check.due("nobody", x.hat(1, 2), -1);
        Check.due("worn", x.told(6), 1);
        doing(x, "die 0;wear 0 1;doff 0;", 1, 2);
    }

    private static void sailing() {
        StormHats x = coast("hat 1 4;hat 1 4;ground 50 0;ground 60 0;man 99;man 98;");
        doing(x, "sail 0 0;wear 0 1;sail 0 0;sail 0 0;hour;hour;", 4, 2);
        Check.due("where", x.man(0, 3), 0);
        Check.due("hours", x.man(0, 4), 2);
        Check.due("landed", x.man(0, 5), 18);
        Check.due("at sea", x.told(5), 1);
        Check.due("men there", x.ground(0, 2), 1);
        Check.due("men elsewhere", x.ground(1, 2), 0);
        doing(x, "sail 0 1;", 1, 0);
        Check.due("hours anew", x.man(0, 4), 0);
        Check.due("fish left", x.told(7), 92);
        Check.due("as told", x.ground(0, 3), 50);
        doing(x, "hour;doff 0;sail 0 0;home 0;home 0;", 3, 2);
        Check.due("at home", x.man(0, 3), -1);
        Check.due("hours at home", x.man(0, 4), 0);
        doing(x, "die 0;home 0;sail 0 0;", 1, 2);
        doing(x, "wear 1 0;sail 1 0;die 1;", 3, 0);
        Check.due("the dead are nowhere", x.man(1, 3), -1);
        Check.due("nobody there", x.ground(0, 2), 0);
    }

    private static void oiling() {
        StormHats x = coast("hat 3 0;ground 50 0;man 99;");
        doing(x, "again 10[oil 0;];", 9, 1);
        Check.due("oiled", x.hat(0, 3), 9);
        Check.due("force as told", x.hat(0, 0), 3);
        doing(x, "wear 0 0;sail 0 0;", 2, 0);
        Check.due("sea by oil", x.sea(0), 36);
    }

    private static void dying() {
        StormHats x = coast("hat 1 0;hat 2 0;ground 9 0;man 9;man 9;man 9;heir 0 1;heir 1 2;heir 2 2;");
        doing(x, "wear 0 1;wear 1 0;die 0;die 0;", 3, 1);
        Check.due("an heir with a hat takes none", x.man(1, 2), 0);
        Check.due("worn by nobody", x.hat(1, 2), -1);
        Check.due("living", x.told(4), 6);
        Check.due("dead", x.man(0, 7), 0);
        doing(x, "die 1;", 1, 0);
        Check.due("the heir has it", x.man(2, 2), 0);
        Check.due("lives", x.man(2, 7), 1);
        doing(x, "die 2;", 1, 0);
        Check.due("his own heir is dead", x.told(6), 0);
        StormHats y = coast("hat 1 0;man 9;man 9;heir 0 1;");
        doing(y, "die 1;wear 0 0;die 0;", 3, 0);
        Check.due("a dead heir takes none", y.told(6), 0);
    }

    private static void hours() {
        StormHats x = coast("hat 12 0;hat 4 0;hat 1 0;ground 20 0;ground 5 4;man 99;man 99;man 99;man 99;");
        doing(x, "wear 0 0;wear 1 1;wear 2 2;sail 0 0;sail 1 0;sail 2 1;doff 2;hour;", 8, 0);
        Check.due("36 hurt", x.man(0, 1), 36);
        Check.due("takes 6", x.man(0, 5), 6);
        Check.due("12 hurt", x.man(1, 1), 12);
        Check.due("takes 8", x.man(1, 5), 8);
        Check.due("bare: 0 hurt", x.man(2, 1), 0);
        Check.due("bare: what is left", x.man(2, 5), 5);
        Check.due("at home: no fish", x.man(3, 5), 0);
        Check.due("left", x.ground(0, 0), 6);
        Check.due("left", x.ground(1, 0), 0);
        Check.due("landed", x.told(8), 19);
        doing(x, "hour;", 1, 0);
        Check.due("the first takes first", x.man(0, 5), 12);
        Check.due("the next what is left", x.man(1, 5), 8);
        Check.due("an hour there all the same", x.man(1, 4), 2);
        doing(x, "again 30[again 30[hour;];];", 192, 0);
        Check.due("hour", x.told(3), 194);
        for (int i = 0; i < 3; i++) {
            doing(x, "again 30[again 30[hour;];];", 192, 0);
        }
        doing(x, "again 30[again 30[hour;];];", 130, 62);
        Check.due("the last hour", x.told(3), 900);
        doing(x, "hour;", 0, 1);
    }

    /** SEAS are had by all as the HOUR begins, deaths come in order, then fish are taken. */
    private static void deathsInAnHour() {
        StormHats x = coast("hat 12 0;hat 11 0;ground 99 0;man 30;man 30;man 50;heir 0 1;heir 1 2;heir 2 0;");
        Check.law(x, "force*3+others");
        doing(x, "wear 2 0;sail 2 0;doff 2;wear 0 0;wear 1 1;sail 0 0;sail 1 0;hour;", 8, 0);
        Check.due("both are dead", x.told(4), 4);
        Check.due("0's heir wore a hat: nobody has it", x.hat(0, 2), -1);
        Check.due("1's heir has it", x.man(2, 2), 1);
        Check.due("his sea was 0", x.man(2, 1), 0);
        Check.due("and he takes 9", x.man(2, 5), 9);
        Check.due("the dead take none", x.told(8), 9);
        Check.due("hurt of the dead stays", x.man(0, 1), 38);
        Check.due("sea now", x.sea(2), 33);
        StormHats y = coast("hat 10 0;ground 99 0;man 30;");
        doing(y, "wear 0 0;sail 0 0;hour;", 3, 0);
        Check.due("as much as the boat bears", y.man(0, 7), 1);
        doing(y, "hour;", 1, 0);
        Check.due("more than it bears", y.man(0, 7), 0);
    }

    private static void facts() {
        StormHats x = coast("hat 7 1;hat 2 7;ground 55 6;ground 44 3;man 88;man 77;man 66;");
        doing(x, "wear 0 0;wear 1 1;sail 0 0;sail 1 0;oil 0;again 3[hour;];", 8, 0);
        Check.due("hurt", x.man(0, 1), 36);
        String[] laws = {"force", "angle", "hours", "boat", "hurt", "fish", "others", "hour"};
        int[] dues = {8, 3, 3, 88, 36, 4, 1, 3};
        for (int i = 0; i < laws.length; i++) {
            Check.law(x, laws[i]);
            Check.due("sea by " + laws[i], x.sea(0), dues[i]);
        }
        Check.law(x, "angle");
        doing(x, "sail 1 1;", 1, 0);
        Check.due("four apart", x.sea(1), 4);
        doing(x, "sail 0 1;", 1, 0);
        Check.due("two apart", x.sea(0), 2);
        doing(x, "sail 1 0;", 1, 0);
        Check.due("one apart", x.sea(1), 1);
        Check.law(x, "99");
        Check.due("at home: no sea", x.sea(2), 0);
        doing(x, "doff 1;", 1, 0);
        Check.due("bare: no sea", x.sea(1), 0);
    }

    private static void loops() {
        StormHats x = coast("hat 1 0;ground 9 0;man 9;");
        doing(x, "again 0[hour;];again 3[hour;again 2[hour;];];again 30[];", 9, 0);
        Check.due("hour", x.told(3), 9);
        doing(x, "again 30[doff 0;doff 0;doff 0;doff 0;doff 0;doff 0;doff 0;];hour;", 0, 199);
        Check.due("what comes behind is left out", x.told(3), 9);
        doing(x, "again 30[again 30[again 1[];];];hour;", 0, 0);
        Check.due("empty ones are begun, too", x.told(3), 9);
        doing(x, "again 30[again 5[];];again 30[again 5[];];again 30[again 5[];];again 30[again 5[];];hour;", 1, 0);
        Check.due("but their ends are not", x.told(3), 10);
        doing(x, "again 9[again 20[hour;];];again 7[hour;];hour;hour;hour;", 189, 0);
        Check.due("just 200", x.told(3), 199);
    }

    private static void undoing() {
        StormHats x = coast("hat 5 0;ground 50 0;man 40;man 9;heir 0 1;");
        doing(x, "wear 0 0;sail 0 0;oil 0;hour;", 4, 0);
        doing(x, "hour;die 0;die 0;", 2, 1);
        Check.law(x, "1");
        Check.due("works", x.count(2), 2);
        Check.due("undo", x.undo(), 1);
        Check.due("refused", x.told(10), 0);
        Check.due("lives", x.told(4), 3);
        Check.due("wears", x.man(0, 2), 0);
        Check.due("where", x.man(0, 3), 0);
        Check.due("hours", x.man(0, 4), 1);
        Check.due("hurt", x.man(0, 1), 18);
        Check.due("landed", x.man(0, 5), 8);
        Check.due("left", x.ground(0, 0), 42);
        Check.due("the law stays", x.sea(0), 1);
        Check.due("undo", x.undo(), 0);
        Check.due("hour", x.told(3), 0);
        Check.due("oil", x.hat(0, 3), 0);
        Check.due("undo", x.undo(), -1);
        Check.workFault(x, "hour", 1, 4);
        Check.due("a work with a fault is none", x.undo(), -1);
        for (int i = 1; i <= 16; i++) {
            doing(x, "hour;", 1, 0);
        }
        Check.due("a 17th", Check.work(x, "hour;"), -20);
        for (int i = 15; i >= 0; i--) {
            Check.due("undo", x.undo(), i);
            Check.due("hour", x.told(3), i);
        }
    }

    private static void images() {
        StormHats x = coast("hat 5 0;ground 50 0;man 40;");
        Check.due("none", x.restore(), -1);
        doing(x, "wear 0 0;wear 0 0;", 1, 1);
        Check.due("none", x.restore(), -1);
        Check.due("image", x.image(), 1);
        doing(x, "sail 0 0;hour;", 2, 0);
        Check.due("image", x.image(), 2);
        Check.due("undo", x.undo(), 1);
        Check.due("undo", x.undo(), 0);
        Check.due("image", x.image(), 3);
        Check.due("a fourth", x.image(), -1);
        Check.due("images", x.count(0), 3);
        doing(x, "oil 0;oil 0;", 2, 0);
        Check.law(x, "4");
        Check.book(x, "2 4;");
        Check.feed(x, "hour;");
        Check.due("restore", x.restore(), 2);
        Check.due("oil", x.hat(0, 3), 0);
        Check.due("works", x.count(2), 0);
        Check.due("nothing to undo", x.undo(), -1);
        Check.due("book stays", x.told(9), 1);
        Check.due("tape stays", x.count(1), 20);
        Check.due("a fault, which clears the tape", x.law(0), -9);
        Check.due("restore", x.restore(), 1);
        Check.due("hour", x.told(3), 1);
        Check.due("works", x.count(2), 2);
        Check.due("law stays", x.sea(0), 4);
        doing(x, "oil 0;oil 0;doff 0;doff 0;", 3, 1);
        Check.due("undo", x.undo(), 2);
        Check.due("undo", x.undo(), 1);
        Check.due("undo of the image's work", x.told(3), 0);
        Check.due("he wears", x.man(0, 2), 0);
        doing(x, "doff 0;doff 0;", 1, 1);
        Check.due("restore", x.restore(), 0);
        Check.due("refused", x.told(10), 0);
        Check.due("works", x.count(2), 1);
        Check.due("undo", x.undo(), 0);
        Check.due("bare", x.man(0, 2), -1);
        Check.due("none", x.restore(), -1);
        worksOfImages();
    }

    /** The WORKS of an IMAGE come back, whatever was done in their places since. */
    private static void worksOfImages() {
        StormHats x = coast("hat 5 0;ground 50 0;man 40;");
        doing(x, "hour;", 1, 0);
        doing(x, "hour;", 1, 0);
        x.image();
        x.undo();
        x.undo();
        doing(x, "wear 0 0;", 1, 0);
        doing(x, "oil 0;", 1, 0);
        doing(x, "oil 0;", 1, 0);
        x.image();
        doing(x, "oil 0;", 1, 0);
        Check.due("restore", x.restore(), 1);
        Check.due("works", x.count(2), 3);
        Check.due("restore", x.restore(), 0);
        Check.due("works", x.count(2), 2);
        Check.due("hour", x.told(3), 2);
        Check.due("undo", x.undo(), 1);
        Check.due("hour", x.told(3), 1);
        Check.due("bare", x.told(6), 0);
        Check.due("undo", x.undo(), 0);
        Check.due("hour", x.told(3), 0);
    }

    private static void refusals() {
        StormHats x = coast("hat 5 0;ground 50 0;man 40;");
        for (int no = -1; no <= 1; no += 2) {
            int n = no;
            Check.missing(x, "hat", () -> x.hat(n, 9));
            Check.missing(x, "ground", () -> x.ground(n, 9));
            Check.missing(x, "man", () -> x.man(n, 9));
            Check.missing(x, "sea", () -> x.sea(n));
        }
        for (int no : new int[] {-1, 4, Integer.MAX_VALUE, Integer.MIN_VALUE}) {
            Check.illegal(x, "hat", () -> x.hat(0, no));
            Check.illegal(x, "ground", () -> x.ground(0, no));
        }
        Check.illegal(x, "man", () -> x.man(0, -1));
        Check.illegal(x, "man", () -> x.man(0, 8));
        Check.illegal(x, "told", () -> x.told(-1));
        Check.illegal(x, "told", () -> x.told(11));
        Check.due("missing", x.status(0), 8);
        Check.due("illegal", x.status(1), 12);
        x.image();
        x.restore();
        Check.coast(x, "");
        Check.due("missing, whatever came", x.status(0), 8);
        Check.due("illegal, whatever came", x.status(1), 12);
        Check.due("others", x.status(2), -1);
        Check.due("others", x.status(-1), -1);
        Check.due("others", x.count(-1), -1);
        Check.due("others", x.count(3), -1);
    }
}
