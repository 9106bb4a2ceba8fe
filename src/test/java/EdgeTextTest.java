/** The document's terms, sentence by sentence: where a text is too long, too full, empty, or wrong. */
public final class EdgeTextTest {
    private static final String FULL = "hat 1 0;".repeat(8) + "ground 1 0;".repeat(6) + "man 1;".repeat(6);

    public static void main(String[] args) {
        coasts();
        laws();
        works();
        books();
        signs();
        faults();
        Check.end();
    }

    private static void coasts() {
        coastOfUpTo600Bytes();
        coastWithoutClauses();
        sixtyClauses();
        eightHats();
        forces();
        sidesOfHats();
        sixGrounds();
        fishOfGrounds();
        sidesOfGrounds();
        sixMen();
        boats();
        heirsToldAhead();
        lastHeirCounts();
    }

    private static void laws() {
        lawOfUpTo150Bytes();
        nothingBehindTheLaw();
        withoutALaw();
        seaIsZeroAtLeast();
        seaIs99AtMost();
        numbersOfLaws();
        anglesRoundTheShorterWay();
        valuesWrap();
        divisionCuts();
        restHasTheSign();
        byZero();
        leastAndMost();
    }

    private static void works() {
        workOfUpTo150Bytes();
        workWithoutSteps();
        againZeroToThirty();
        numbersOfSteps();
    }

    private static void books() {
        bookOfUpTo60Bytes();
        bookWithoutLines();
        eightLines();
        noHourTwice();
        hoursOfBooks();
        seasOfBooks();
    }

    private static void signs() {
        digitsAsManyAsStandThere();
        lettersAsManyAsStandThere();
        blanks();
    }

    private static void faults() {
        theFirstFromTheLeft();
        atItsFirstByte();
        textEndsTooEarly();
        whatCannotStandThere();
        aSeventhOpen();
        sixOpenAtOneTime();
        ofOnePlaceTheLeast();
    }

    private static void coastIs(String text, int men) {
        StormHats x = new StormHats();
        Check.due("coast " + text, Check.coast(x, text), men);
        Check.due("fault of coast " + text, x.fault(), -1);
    }

    private static void coastFails(String text, int code, int place) {
        Check.coastFault(new StormHats(), text, code, place);
    }

    private static void lawFails(String text, int code, int place) {
        Check.lawFault(new StormHats(), text, code, place);
    }

    private static void bookIs(String text, int lines) {
        StormHats x = new StormHats();
        Check.due("book " + text, Check.book(x, text), lines);
        Check.due("fault of book " + text, x.fault(), -1);
        Check.due("lines of book " + text, x.told(9), lines);
    }

    private static void bookFails(String text, int code, int place) {
        Check.bookFault(new StormHats(), text, code, place);
    }

    private static void workIs(String text, int done) {
        StormHats x = Check.made(FULL);
        Check.due("work " + text, Check.work(x, text), done);
        Check.due("fault of work " + text, x.fault(), -1);
    }

    private static void workFails(String text, int code, int place) {
        Check.workFault(Check.made(FULL), text, code, place);
    }

    /** SEA by a LAW for a force of 21, an angle of 4, and all else as little as can be. */
    private static void lawIs(String text, int sea) {
        StormHats x = new StormHats();
        Check.due("law " + text, Check.law(x, text), 1);
        Check.due("fault of law " + text, x.fault(), -1);
        Check.due("sea by " + text, x.would(21, 4, 0, 1, 0, 0, 0, 0), sea);
    }

    // "A COAST is a text of up to 600 bytes"
    private static void coastOfUpTo600Bytes() {
        coastIs(" ".repeat(594) + "man 7;", 1);
        coastIs("man 7;" + " ".repeat(594), 1);
        coastFails(" ".repeat(595) + "man 7", 1, 600);
        coastFails(" ".repeat(599) + ";", 1, 599);
        StormHats x = new StormHats();
        Check.feed(x, " ".repeat(600));
        Check.illegal(x, "coast(601)", () -> x.coast(601));
        Check.due("coast(600)", x.coast(600), 0);
    }

    // "{ CLAUSE ";" }": there may be none.
    private static void coastWithoutClauses() {
        coastIs("", 0);
        coastIs(" ", 0);
        coastFails(";", 1, 0);
    }

    // "at most 60", "3 a CLAUSE .. too many (at its word)"
    private static void sixtyClauses() {
        String sixty = "man 9;" + "heir 0 0;".repeat(59);
        coastIs(sixty, 1);
        coastIs(sixty + "  ", 1);
        for (String word : new String[] {"hat 1 0;", "ground 1 0;", "man 1;", "heir 0 0;", "hat", "ground", "man", "heir"}) {
            coastFails(sixty + word, 3, 537);
            coastFails(sixty + "  " + word, 3, 539);
        }
    }

    // "HATS, numbered from 0 on, 8 at most", "3 a .. HAT .. too many (at its word)"
    private static void eightHats() {
        StormHats x = Check.made("hat 1 7;hat 2 6;hat 3 5;hat 4 4;hat 5 3;hat 6 2;hat 7 1;hat 8 0;");
        Check.due("hats", x.told(0), 8);
        for (int hat = 0; hat < 8; hat++) {
            Check.due("force of " + hat, x.hat(hat, 0), hat + 1);
            Check.due("side of " + hat, x.hat(hat, 1), 7 - hat);
        }
        Check.missing(x, "hat 8", () -> x.hat(8, 0));
        coastFails("hat 1 0;".repeat(8) + "hat 1 0;", 3, 64);
        coastFails("hat 1 0;".repeat(8) + "man 9; hat 99 99;", 3, 71);
    }

    // "FORCE F, 1 to 12"
    private static void forces() {
        Check.due("the least force", Check.made("hat 1 0;").hat(0, 0), 1);
        Check.due("the greatest force", Check.made("hat 12 0;").hat(0, 0), 12);
        coastFails("hat 0 0;", 2, 4);
        coastFails("hat 13 0;", 2, 4);
    }

    // "from side D, 0 to 7"
    private static void sidesOfHats() {
        Check.due("the least side", Check.made("hat 1 0;").hat(0, 1), 0);
        Check.due("the greatest side", Check.made("hat 1 7;").hat(0, 1), 7);
        coastFails("hat 1 8;", 2, 6);
    }

    // "GROUNDS likewise, 6", "3 a .. GROUND .. too many (at its word)"
    private static void sixGrounds() {
        StormHats x = Check.made("ground 10 5;ground 11 4;ground 12 3;ground 13 2;ground 14 1;ground 15 0;");
        Check.due("grounds", x.told(1), 6);
        for (int ground = 0; ground < 6; ground++) {
            Check.due("fish of " + ground, x.ground(ground, 3), 10 + ground);
            Check.due("side of " + ground, x.ground(ground, 1), 5 - ground);
        }
        Check.missing(x, "ground 6", () -> x.ground(6, 0));
        coastFails("ground 1 0;".repeat(6) + "ground 1 0;", 3, 66);
        coastFails("ground 1 0;".repeat(6) + "man 9; ground 9999 9;", 3, 73);
    }

    // "N fish, 0 to 999"
    private static void fishOfGrounds() {
        Check.due("no fish", Check.made("ground 0 0;").ground(0, 0), 0);
        Check.due("most fish", Check.made("ground 999 0;").ground(0, 0), 999);
        coastFails("ground 1000 0;", 2, 7);
    }

    // "open to side D, 0 to 7"
    private static void sidesOfGrounds() {
        Check.due("the least side", Check.made("ground 1 0;").ground(0, 1), 0);
        Check.due("the greatest side", Check.made("ground 1 7;").ground(0, 1), 7);
        coastFails("ground 1 8;", 2, 9);
    }

    // "MEN likewise, 6", "3 a .. MAN too many (at its word)"
    private static void sixMen() {
        StormHats x = Check.made("man 11;man 12;man 13;man 14;man 15;man 16;");
        Check.due("men", x.told(2), 6);
        for (int man = 0; man < 6; man++) {
            Check.due("boat of " + man, x.man(man, 0), 11 + man);
        }
        Check.missing(x, "man 6", () -> x.man(6, 0));
        coastFails("man 1;".repeat(6) + "man 1;", 3, 36);
        coastFails("man 1;".repeat(6) + "heir 5 5; man 0;", 3, 46);
    }

    // "his boat bears B, 1 to 99"
    private static void boats() {
        Check.due("the least boat", Check.made("man 1;").man(0, 0), 1);
        Check.due("the greatest boat", Check.made("man 99;").man(0, 0), 99);
        coastFails("man 0;", 2, 4);
        coastFails("man 100;", 2, 4);
    }

    // "of MAN M MAN K is the heir, both told ahead"
    private static void heirsToldAhead() {
        Check.due("the last man's heir", Check.made("man 1;man 1;heir 1 0;").man(1, 6), 0);
        Check.due("the last man as an heir", Check.made("man 1;man 1;heir 0 1;").man(0, 6), 1);
        Check.due("his own heir", Check.made("man 1;heir 0 0;").man(0, 6), 0);
        coastFails("heir 0 0;", 2, 5);
        coastFails("hat 1 0;ground 1 0;heir 0 0;man 1;", 2, 24);
        coastFails("man 1;heir 1 0;man 1;", 2, 11);
        coastFails("man 1;heir 0 1;man 1;", 2, 13);
    }

    // "of one M the last counts"
    private static void lastHeirCounts() {
        StormHats x = Check.made("man 1;man 1;man 1;heir 0 1;heir 1 0;heir 0 2;");
        Check.due("the last", x.man(0, 6), 2);
        Check.due("another's stays", x.man(1, 6), 0);
        Check.due("none", x.man(2, 6), -1);
    }

    // "A LAW is a text of up to 150 bytes"
    private static void lawOfUpTo150Bytes() {
        lawIs(" ".repeat(149) + "7", 7);
        lawIs("7" + " ".repeat(149), 7);
        lawIs("(" + "1+".repeat(73) + "1 )", 74);
        lawFails(" ".repeat(149) + "(", 1, 150);
        StormHats x = new StormHats();
        Check.feed(x, "7" + " ".repeat(159));
        Check.illegal(x, "law(151)", () -> x.law(151));
        Check.illegal(x, "law(160)", () -> x.law(160));
        Check.due("law(150)", x.law(150), 1);
    }

    // "E, at the end nothing more"
    private static void nothingBehindTheLaw() {
        lawFails("", 1, 0);
        lawFails("  ", 1, 2);
        lawFails("1;", 1, 1);
        lawFails("1 1", 1, 2);
        lawFails("force hour", 1, 6);
        lawFails("(1)(1)", 1, 3);
        lawFails("1]", 1, 1);
        lawFails("1,", 1, 1);
        lawFails("1000 1", 2, 0);
    }

    // "without: force * 3 - angle * 4"; a COAST takes a LAW away, however long it is.
    private static void withoutALaw() {
        StormHats y = new StormHats();
        Check.due("a long law", Check.law(y, "1" + "+1".repeat(74)), 1);
        Check.due("sea by it", y.would(9, 1, 0, 1, 0, 0, 0, 0), 75);
        Check.due("a coast", Check.coast(y, ""), 0);
        Check.due("no law", y.would(9, 1, 0, 1, 0, 0, 0, 0), 23);
        Check.due("a coast", Check.coast(y, ""), 0);
        Check.due("no law", y.would(9, 1, 0, 1, 0, 0, 0, 0), 23);
        StormHats x = new StormHats();
        for (int force = 1; force <= 21; force++) {
            for (int angle = 0; angle <= 4; angle++) {
                int due = Math.max(0, force * 3 - angle * 4);
                Check.due("force " + force + ", angle " + angle, x.would(force, angle, 9, 9, 9, 9, 1, 9), due);
            }
        }
    }

    // "SEA of a MAN: what comes out, 0 at least"
    private static void seaIsZeroAtLeast() {
        lawIs("0", 0);
        lawIs("0-1", 0);
        lawIs("1-1", 0);
        lawIs("2-1", 1);
        lawIs("0-512*512*512*15", 0);
        lawIs("512*512*512*16", 0);
    }

    // "99 at most"
    private static void seaIs99AtMost() {
        lawIs("98", 98);
        lawIs("99", 99);
        lawIs("100", 99);
        lawIs("512*512*512*15", 99);
        lawIs("512*512*512*16-1", 99);
    }

    // "U: N (0 to 999)"
    private static void numbersOfLaws() {
        lawIs("0", 0);
        lawIs("999-950", 49);
        lawFails("1000", 2, 0);
        lawFails("1+1000", 2, 2);
        lawFails("least[1,1000]", 2, 8);
        lawFails("(1000)", 2, 1);
    }

    // "angle" (how many sides D of the HAT and D of the GROUND are apart, round the shorter way: 0 to 4)
    private static void anglesRoundTheShorterWay() {
        int[] apart = {0, 1, 2, 3, 4, 3, 2, 1};
        for (int side = 0; side < 8; side++) {
            StormHats x = Check.made("hat 1 " + side + ";ground 1 0;ground 1 1;ground 1 2;ground 1 3;man 9;");
            StormHats y = Check.made("hat 1 " + side + ";ground 1 4;ground 1 5;ground 1 6;ground 1 7;man 9;");
            Check.law(x, "angle");
            Check.law(y, "angle");
            for (int open = 0; open < 4; open++) {
                Check.due("from " + side + " to " + open, x.suits(0, open, 1, 1), apart[side - open + 8 & 7]);
                Check.due("from " + side + " to " + (4 + open), y.suits(0, open, 1, 1), apart[side - open + 4 & 7]);
            }
        }
    }

    // "Values are whole numbers of 32 bits that wrap"
    private static void valuesWrap() {
        lawIs("512*512*512*32", 0);
        lawIs("512*512*512*32+7", 7);
        lawIs("0-512*512*512*16-1", 99);
        lawIs("512*512*512*16-1+1", 0);
        lawIs("(512*512*512*16-1+512*512*512*16)+9", 8);
        lawIs("(512*512*512*16-1)*(512*512*512*16-1)", 1);
        lawIs("(512*512*512*16)/(0-1)", 0);
        lawIs("(512*512*512*16)/(0-1)-1", 99);
        lawIs("(512*512*512*16)%(0-1)+5", 5);
        lawIs("999*999*999/999", 99);
        lawIs("999*999*999*999/999/999*0+(999*999*999*999)%97+50", 999 * 999 * 999 * 999 % 97 + 50);
    }

    // "/ cuts"
    private static void divisionCuts() {
        lawIs("7/2", 3);
        lawIs("8/2", 4);
        lawIs("1/2", 0);
        lawIs("50+(0-7)/2", 47);
        lawIs("50+7/(0-2)", 47);
        lawIs("50+(0-7)/(0-2)", 53);
    }

    // "% leaves (with the sign of what is divided)"
    private static void restHasTheSign() {
        lawIs("7%3", 1);
        lawIs("6%3", 0);
        lawIs("50+(0-7)%3", 49);
        lawIs("50+7%(0-3)", 51);
        lawIs("50+(0-7)%(0-3)", 49);
    }

    // "by 0 both are 0"
    private static void byZero() {
        lawIs("7/0+1", 1);
        lawIs("7%0+2", 2);
        lawIs("0/0+3", 3);
        lawIs("0%0+4", 4);
        lawIs("(0-7)/(1-1)+5", 5);
        lawIs("512*512*512*16/0+6", 6);
        lawIs("512*512*512*16%0+7", 7);
        lawIs("9/hurt+8", 8);
    }

    private static void leastAndMost() {
        lawIs("least[5,6]", 5);
        lawIs("least[6,5]", 5);
        lawIs("least[5,5]", 5);
        lawIs("most[5,6]", 6);
        lawIs("most[6,5]", 6);
        lawIs("most[5,5]", 5);
        lawIs("9+least[0-5,5]", 4);
        lawIs("9+most[0-5,0-6]", 4);
        lawIs("most[512*512*512*16,512*512*512*16-1]/512/512/512", 15);
        lawIs("50+least[512*512*512*16,512*512*512*16-1]/512/512/512", 34);
    }

    // "WORK is a text of up to 150 bytes"
    private static void workOfUpTo150Bytes() {
        workIs("hour;".repeat(30), 30);
        workIs(" ".repeat(145) + "hour;", 1);
        workFails(" ".repeat(146) + "hour", 1, 150);
        StormHats x = new StormHats();
        Check.feed(x, "hour;" + " ".repeat(155));
        Check.illegal(x, "work(151)", () -> x.work(151));
        Check.due("nothing was done", x.told(3), 0);
        Check.due("work(150)", x.work(150), 1);
    }

    // "{ STEP ";" }": there may be none.
    private static void workWithoutSteps() {
        workIs("", 0);
        workIs("   ", 0);
        workIs("again 3[];", 0);
        workIs("again 3[ ] ;", 0);
        workFails(";", 1, 0);
        workFails("again 3[;];", 1, 8);
        workFails("hour;;", 1, 5);
    }

    // "again" N .. (N 0 to 30)
    private static void againZeroToThirty() {
        workIs("again 0[hour;];", 0);
        workIs("again 1[hour;];", 1);
        workIs("again 30[hour;];", 30);
        workFails("again 31[hour;];", 2, 6);
        workFails("hour;again 999999999999[hour;];", 2, 11);
    }

    // "wear" M H, "doff" M, "sail" M G, "home" M, "oil" H, "die" M: each a MAN, HAT or GROUND that there is
    private static void numbersOfSteps() {
        workIs("wear 5 7;sail 5 5;home 5;doff 5;oil 7;die 5;", 6);
        workFails("wear 6 7;", 2, 5);
        workFails("wear 5 8;", 2, 7);
        workFails("doff 6;", 2, 5);
        workFails("sail 6 5;", 2, 5);
        workFails("sail 5 6;", 2, 7);
        workFails("home 6;", 2, 5);
        workFails("oil 8;", 2, 4);
        workFails("die 6;", 2, 4);
        String[] steps = {"wear 0 0;", "doff 0;", "sail 0 0;", "home 0;", "die 0;"};
        for (String step : steps) {
            Check.workFault(Check.made("hat 1 0;ground 1 0;"), step, 2, step.indexOf(' ') + 1);
        }
        Check.workFault(Check.made("ground 1 0;man 1;"), "oil 0;", 2, 4);
        Check.workFault(Check.made("ground 1 0;man 1;"), "wear 0 0;", 2, 7);
        Check.workFault(Check.made("hat 1 0;man 1;"), "sail 0 0;", 2, 7);
    }

    // "A BOOK is one of up to 60 bytes"
    private static void bookOfUpTo60Bytes() {
        bookIs(" ".repeat(56) + "1 1;", 1);
        bookIs("1 1;" + " ".repeat(56), 1);
        bookFails(" ".repeat(57) + "1 1", 1, 60);
        StormHats x = new StormHats();
        Check.feed(x, "1 1;" + " ".repeat(76));
        Check.illegal(x, "book(61)", () -> x.book(61));
        Check.due("book(60)", x.book(60), 1);
    }

    // "{ H V ";" }": there may be none.
    private static void bookWithoutLines() {
        bookIs("", 0);
        bookIs("  ", 0);
        bookFails(";", 1, 0);
    }

    // "8 lines at most", "3 .. a line too many (at its H)"
    private static void eightLines() {
        String eight = "0 0;1 1;2 2;3 3;4 4;5 5;6 6;7 7;";
        bookIs(eight, 8);
        bookIs(eight + " ", 8);
        bookFails(eight + "8 8;", 3, 32);
        bookFails(eight + "  8 100;", 3, 34);
        bookFails(eight + "8", 3, 32);
    }

    // "no H twice", "2 .. (an H twice in a BOOK)"
    private static void noHourTwice() {
        bookFails("5 1;5 1;", 2, 4);
        bookFails("5 1;6 1; 05 2;", 2, 9);
        bookFails("0 1;1 1;2 1;3 1;4 1;5 1;6 1;0 1;", 2, 28);
        bookFails("5 1;5", 2, 4);
        bookIs("5 1;6 1;", 2);
        bookIs("1 5;5 5;", 2);
    }

    // "in his H-th hour (0 to 23)"
    private static void hoursOfBooks() {
        bookIs("0 1;", 1);
        bookIs("23 1;", 1);
        bookFails("24 1;", 2, 0);
        bookFails("1 1; 24 1;", 2, 5);
    }

    // "a SEA of V (0 to 99)"
    private static void seasOfBooks() {
        bookIs("1 0;", 1);
        bookIs("1 99;", 1);
        bookFails("1 100;", 2, 2);
    }

    // "Numbers: digits, as many as stand there"
    private static void digitsAsManyAsStandThere() {
        Check.due("zeros ahead", Check.made("man " + "0".repeat(500) + "42;").man(0, 0), 42);
        coastFails("man " + "9".repeat(500) + ";", 2, 4);
        coastFails("man 00000000100;", 2, 4);
        coastFails("man 4294967297;", 2, 4);
        coastFails("man 18446744073709551617;", 2, 4);
        coastFails("hat 1200;", 2, 4);
        coastFails("hat 12;", 1, 6);
        lawIs("0000000000000000000000000000000000007", 7);
        lawFails("1 0", 1, 2);
        bookIs("00000023 0000099;", 1);
        workIs("again 000000000000002[hour;];", 2);
    }

    // "WORDS: small letters, as many as stand there"
    private static void lettersAsManyAsStandThere() {
        coastFails("hats 1 0;", 1, 0);
        coastFails("hatz 1 0;", 1, 0);
        coastFails("ha 1 0;", 1, 0);
        coastFails("bat 1 0;", 1, 0);
        coastFails("het 1 0;", 1, 0);
        coastFails("had 1 0;", 1, 0);
        coastFails("h at 1 0;", 1, 0);
        coastFails("hAt 1 0;", 1, 0);
        coastFails("HAT 1 0;", 1, 0);
        coastFails("mana1;", 1, 0);
        coastIs("man1;", 1);
        lawIs("hours", 0);
        lawFails("hoursforce", 1, 0);
        lawFails("hou", 1, 0);
        lawFails("your", 1, 0);
        lawFails("forcez", 1, 0);
        lawFails("leastt[1,2]", 1, 0);
        workFails("hours;", 1, 0);
        workFails("againn 1[];", 1, 0);
        workFails("again 1[hou;];", 1, 8);
        workIs("again1[hour;];", 1);
    }

    // "blanks (32) may stand ahead of all these, and at the end"
    private static void blanks() {
        coastIs("  hat  1  0  ;  ground  1  0  ;  man  9  ;  heir  0  0  ;  ", 1);
        lawIs("  least  [  (  9  )  ,  7  *  2  ]  %  5  ", 4);
        workIs("  again  2  [  hour  ;  ]  ;  oil  0  ;  ", 3);
        bookIs("  1  2  ;  3  4  ;  ", 2);
        for (char sign : new char[] {0, 9, 10, 13, 160, 255}) {
            coastFails("man" + sign + "9;", 1, 3);
            coastFails("man 9;" + sign, 1, 6);
            lawFails("1" + sign, 1, 1);
            workFails("hour;" + sign, 1, 5);
            bookFails(sign + "1 1;", 1, 0);
        }
    }

    // "FAULTS, the first from the left"
    private static void theFirstFromTheLeft() {
        coastFails("man 0;hats;", 2, 4);
        coastFails("hats;man 0;", 1, 0);
        coastFails("man 1;".repeat(7) + "man 0;hats", 3, 36);
        coastFails("man 0;" + "man 1;".repeat(7), 2, 4);
        lawFails("1000+(", 2, 0);
        lawFails("(+1000", 1, 1);
        lawFails("(((((((1000", 3, 6);
        workFails("oil 8;rest;", 2, 4);
        workFails("rest;oil 8;", 1, 0);
        workFails("again 31[again", 2, 6);
        bookFails("24 100", 2, 0);
        bookFails("1 1;1 100", 2, 4);
    }

    // "at its first byte"
    private static void atItsFirstByte() {
        coastFails("   hats;", 1, 3);
        coastFails("man    100;", 2, 7);
        coastFails("man 1;".repeat(6) + "   man 1;", 3, 39);
        lawFails("1 +   1000", 2, 6);
        lawFails("((((((   least[1,1]", 3, 9);
        workFails("hour;   rest;", 1, 8);
        bookFails("   24 1;", 2, 3);
    }

    // "1 .. (at the length, if the text ends too early)"
    private static void textEndsTooEarly() {
        String[] coasts = {"hat", "hat ", "hat 1", "hat 1 ", "hat 1 0", "hat 1 0 ", "ground", "ground 1", "ground 1 0",
            "man", "man 9", "man 9;heir", "man 9;heir 0", "man 9;heir 0 0", "man 9;heir 0 0   "};
        for (String text : coasts) {
            coastFails(text, 1, text.length());
        }
        String[] laws = {"", " ", "1+", "1-", "1*", "1/", "1%", "(", "(1", "(1+", "least", "least[", "least[1", "least[1,",
            "least[1,2", "most", "most [", "most[1 ", "most[1, ", "most[1,2  "};
        for (String text : laws) {
            lawFails(text, 1, text.length());
        }
        String[] works = {"wear", "wear 0", "wear 0 0", "doff", "doff 0", "sail", "sail 0", "sail 0 0", "home", "home 0", "oil",
            "oil 0", "die", "die 0", "hour", "hour ", "again", "again 1", "again 1[", "again 1[hour", "again 1[hour;",
            "again 1[hour;]", "again 1[again 1[];", "again 1[hour;]  "};
        for (String text : works) {
            workFails(text, 1, text.length());
        }
        for (String text : new String[] {"1", "1 ", "1 1", "1 1 ", "1 1;2", "1 1;2 2"}) {
            bookFails(text, 1, text.length());
        }
    }

    // "1 what can't stand there"
    private static void whatCannotStandThere() {
        coastFails("1;", 1, 0);
        coastFails("hat x 0;", 1, 4);
        coastFails("hat 1 x;", 1, 6);
        coastFails("hat 1 0 0;", 1, 8);
        coastFails("hat 1 0,", 1, 7);
        coastFails("ground;", 1, 6);
        coastFails("ground 1;", 1, 8);
        coastFails("man man;", 1, 4);
        coastFails("man -1;", 1, 4);
        coastFails("man 9;heir 0;", 1, 12);
        lawFails("+", 1, 0);
        lawFails("()", 1, 1);
        lawFails("(1,2)", 1, 2);
        lawFails("least[1;2]", 1, 7);
        lawFails("least{1,2}", 1, 5);
        lawFails("most[1,2)", 1, 8);
        lawFails("1^2", 1, 1);
        lawFails("least", 1, 5);
        lawFails("wear", 1, 0);
        workFails("wear;", 1, 4);
        workFails("hour 1;", 1, 5);
        workFails("again[hour;];", 1, 5);
        workFails("again 1(hour;);", 1, 7);
        workFails("again 1[hour;)", 1, 13);
        workFails("again 1[hour;],", 1, 14);
        workFails("];", 1, 0);
        workFails("hat 1 0;", 1, 0);
        bookFails("1,1;", 1, 1);
        bookFails("1 1,", 1, 3);
        bookFails("1;", 1, 1);
        bookFails("hour 1;", 1, 0);
    }

    // "3 .. a 7th of ( least most again that is open at one time"
    private static void aSeventhOpen() {
        lawFails("(((((((1)))))))", 3, 6);
        lawFails("((((((least[1,2]))))))", 3, 6);
        lawFails("((((((most[1,2]))))))", 3, 6);
        lawFails("((((((1+least[1,2]))))))", 3, 8);
        lawFails("((((((1))))))+(((((((", 3, 20);
        lawFails("least[1,most[1,least[1,most[1,least[1,most[1,(2)]]]]]]", 3, 45);
        lawFails("least[least[least[least[least[least[least[", 3, 36);
        lawFails("most[1,((((((", 3, 12);
        workFails("again 1[".repeat(6) + "again 1[];" + "];".repeat(6), 3, 48);
        workFails("again 1[".repeat(6) + "hour;again", 3, 53);
        workFails("again 0[".repeat(6) + "again 31", 3, 48);
    }

    // Six are no fault, and what was shut is not open.
    private static void sixOpenAtOneTime() {
        lawIs("((((((5))))))", 5);
        lawIs("((((((5))))))+((((((6))))))", 11);
        lawIs("(((((least[5,6])))))", 5);
        lawIs("most[1,least[9,most[2,least[8,most[3,least[7,4]]]]]]", 4);
        lawIs("(((((least[1,2]+most[3,4]+(5)))))) ", 10);
        lawIs("least[(((((3))))),(((((2)))))]", 2);
        workIs("again 1[".repeat(6) + "hour;" + "];".repeat(6), 1);
        workIs("again 1[".repeat(5) + "again 1[];again 1[hour;];" + "];".repeat(5), 1);
    }

    // "of one the least": two FAULTS at one place
    private static void ofOnePlaceTheLeast() {
        String sixty = "man 9;" + "heir 0 0;".repeat(59);
        coastFails(sixty + "hats", 1, 537);
        coastFails(sixty + ";", 1, 537);
        coastFails(sixty + "7", 1, 537);
        String eight = "0 0;1 1;2 2;3 3;4 4;5 5;6 6;7 7;";
        bookFails(eight + "x", 1, 32);
        bookFails(eight + ";", 1, 32);
        bookFails(eight + "24 1;", 2, 32);
        bookFails(eight + "7 1;", 2, 32);
        bookFails(eight + "0 1;", 2, 32);
    }
}
