/** Promises 1 to 13 and 33 to 36, sentence by sentence: what is empty, full, stays, is gone, or is refused. */
public final class EdgeCallTest {
    private static final String SMALL = "hat 4 0;hat 5 3;ground 50 0;ground 40 5;man 60;man 50;heir 0 1;";
    private static final int[] FAR = {-1, Integer.MIN_VALUE, Integer.MAX_VALUE};

    public static void main(String[] args) {
        newObject();
        tape();
        coasts();
        laws();
        works();
        books();
        faults();
        undoing();
        toldThings();
        toldOfHats();
        toldOfGrounds();
        toldOfMen();
        seas();
        images();
        refusals();
        counts();
        Check.end();
    }

    private static void tape() {
        feedTo600();
        feedHighestFirst();
    }

    private static void coasts() {
        coastTakesTheFirstBytes();
        coastBeginsAnew();
        coastWithAFault();
        coastOfWrongLength();
    }

    private static void works() {
        sixteenWorks();
        seventeenthIsNotRead();
        workWithAFault();
        stepsCounted();
    }

    private static void images() {
        threeImages();
        imageOfAllThatWorkChanges();
        imageOfWorks();
        whatNoImageKeeps();
        restoreWithoutOne();
    }

    /** Days in which all that can be changed is. */
    private static StormHats busy() {
        StormHats x = Check.made(SMALL);
        Check.law(x, "force*2+hours");
        Check.book(x, "0 8;1 9;");
        Check.doing(x, "wear 0 0;sail 0 0;wear 1 1;sail 1 1;oil 1;", 5, 0);
        Check.doing(x, "hour;hour;die 1;doff 1;", 3, 1);
        x.image();
        return x;
    }

    // "A COAST without CLAUSES"
    private static void newObject() {
        StormHats x = new StormHats();
        for (int what = 0; what <= 10; what++) {
            Check.due("told " + what, x.told(what), 0);
        }
        Check.due("fault", x.fault(), -1);
        Check.due("images", x.count(0), 0);
        Check.due("tape", x.count(1), 0);
        Check.due("works", x.count(2), 0);
        Check.due("undo", x.undo(), -1);
        Check.due("restore", x.restore(), -1);
        Check.due("best", x.best(0), -1);
        Check.due("ahead", x.ahead(99, 1), 0);
        Check.due("the law without one", x.would(9, 1, 0, 1, 0, 0, 0, 0), 23);
        Check.due("an hour", Check.work(x, "hour;"), 1);
        Check.due("the hour", x.told(3), 1);
        Check.missing(x, "hat", () -> x.hat(0, 0));
        Check.missing(x, "ground", () -> x.ground(0, 0));
        Check.missing(x, "man", () -> x.man(0, 0));
    }

    // "how many there are; NONE, doing nothing, if there would be more than 600"
    private static void feedTo600() {
        StormHats x = new StormHats();
        for (int i = 1; i <= 30; i++) {
            Check.due("feed " + i, x.feed(0x20202020, 0x20202020, 0x20202020, 0x20202020, 0x20202020), 20 * i);
        }
        Check.due("one more", x.feed(0, 0, 0, 0, 0), -1);
        Check.due("and again", x.feed(0, 0, 0, 0, 0), -1);
        Check.due("still 600", x.count(1), 600);
        Check.due("no refused call", x.status(0) + x.status(1), 0);
        Check.due("blanks alone", x.coast(600), 0);
        Check.due("from the beginning", x.feed(0, 0, 0, 0, 0), 20);
    }

    // "of each number the highest first"
    private static void feedHighestFirst() {
        StormHats x = new StormHats();
        x.feed(0x6D616E20, 0x34323B68, 0x61742031, 0x3120373B, 0x20202020);
        Check.due("man 42;hat 11 7;", x.coast(20), 1);
        Check.due("boat", x.man(0, 0), 42);
        Check.due("force", x.hat(0, 0), 11);
        StormHats y = new StormHats();
        for (int i = 0; i < 20; i++) {
            int[] five = {0x20202020, 0x20202020, 0x20202020, 0x20202020, 0x20202020};
            five[i / 4] &= ~(255 << 24 - i % 4 * 8);
            five[i / 4] |= 0xE1 << 24 - i % 4 * 8;
            y.feed(five[0], five[1], five[2], five[3], five[4]);
            Check.due("a byte of 225 at " + i, y.coast(20), -9);
            Check.due("its place", y.fault(), i);
        }
    }

    // "The first n bytes of the TAPE (empty then) are the COAST"
    private static void coastTakesTheFirstBytes() {
        StormHats x = new StormHats();
        Check.feed(x, "man 9;man 8;man 7;xyz");
        Check.due("two of three", x.coast(12), 2);
        Check.due("the tape is empty", x.count(1), 0);
        Check.feed(x, "man 9;man 8;man 7;xyz");
        Check.due("none of three", x.coast(0), 0);
        Check.due("the tape is empty", x.count(1), 0);
        Check.due("no bytes of an empty one", x.coast(0), 0);
        Check.feed(x, "man 9;" + " ".repeat(14));
        Check.due("all bytes", x.coast(20), 1);
    }

    // "(no LAW, BOOK, IMAGES, nothing to undo)"
    private static void coastBeginsAnew() {
        StormHats x = busy();
        Check.due("coast", Check.coast(x, SMALL), 2);
        Check.due("no law", x.would(9, 1, 9, 1, 0, 0, 0, 0), 23);
        Check.due("no book", x.told(9), 0);
        Check.due("all pairs fit", x.fits(0, 0), 4);
        Check.due("no images", x.count(0), 0);
        Check.due("none to restore", x.restore(), -1);
        Check.due("no works", x.count(2), 0);
        Check.due("none to undo", x.undo(), -1);
        Check.due("none refused by any", x.told(10), 0);
        Check.due("hour 0", x.told(3), 0);
        Check.due("a smaller one", Check.coast(x, "man 9;"), 1);
        Check.due("no hats", x.told(0), 0);
        Check.due("no grounds", x.told(1), 0);
        Check.due("no heir", x.man(0, 6), -1);
        for (int i = 0; i < 16; i++) {
            Check.due("16 works anew", Check.work(x, "hour;"), 1);
        }
    }

    // "or the FAULT less 10 (all stays)"
    private static void coastWithAFault() {
        StormHats x = busy();
        String days = Check.daysOf(x);
        String told = Check.toldOf(x);
        Check.coastFault(x, "hat 9 1;ground 9 1;man 9;man 8;man 7;heir 0 3;", 2, 44);
        Check.due("but the tape is empty", x.count(1), 0);
        Check.coastFault(x, "man 9;hats", 1, 6);
        Check.coastFault(x, "man 1;".repeat(7), 3, 36);
        Check.same("days", Check.daysOf(x), days);
        Check.same("told", Check.toldOf(x), told);
        Check.due("fits by law and book", x.fits(0, 0), 2);
        Check.due("restore", x.restore(), 0);
        Check.due("undo", x.undo(), 1);
    }

    // "IllegalArgumentException: n is not 0 to the TAPE's bytes (it stays)"
    private static void coastOfWrongLength() {
        StormHats x = Check.made("man 9;");
        Check.coastFault(x, "x", 1, 0);
        Check.feed(x, "man 9;man 8;");
        for (int wrong : new int[] {-1, 21, 600, 601, Integer.MIN_VALUE, Integer.MAX_VALUE}) {
            Check.illegal(x, "coast " + wrong, () -> x.coast(wrong));
            Check.illegal(x, "law " + wrong, () -> x.law(wrong));
            Check.illegal(x, "work " + wrong, () -> x.work(wrong));
            Check.illegal(x, "book " + wrong, () -> x.book(wrong));
        }
        Check.due("the tape stays", x.count(1), 20);
        Check.due("the fault stays", x.fault(), 0);
        Check.due("men stay", x.told(2), 1);
        Check.due("the tape as it was", x.coast(12), 2);
        Check.illegal(x, "coast of an empty tape", () -> x.coast(1));
        Check.illegal(x, "law of an empty tape", () -> x.law(1));
        Check.illegal(x, "work of an empty tape", () -> x.work(1));
        Check.illegal(x, "book of an empty tape", () -> x.book(1));
    }

    // "Likewise the LAW (n to 150): 1"
    private static void laws() {
        StormHats x = busy();
        String days = Check.daysOf(x);
        String told = Check.toldOf(x);
        Check.lawFault(x, "1000", 2, 0);
        Check.due("the tape is empty", x.count(1), 0);
        Check.lawFault(x, "(((((((", 3, 6);
        Check.lawFault(x, "99+", 1, 3);
        Check.same("days", Check.daysOf(x), days);
        Check.same("told: the law stays", Check.toldOf(x), told);
        Check.due("a law", Check.law(x, "hour"), 1);
        Check.due("sea by it", x.sea(0), 2);
        Check.due("another", Check.law(x, "7"), 1);
        Check.due("sea by it", x.sea(0), 7);
        Check.due("book, images and works stay", x.told(9) * 100 + x.count(0) * 10 + x.count(2), 212);
        Check.due("days stay", x.told(3), 2);
        Check.feed(x, "7 8 9");
        Check.due("its first bytes", x.law(1), 1);
    }

    // "-20 ..: 16 WORKS are there that were not undone"
    private static void sixteenWorks() {
        StormHats x = Check.made(SMALL);
        for (int i = 1; i <= 16; i++) {
            Check.due("work " + i, Check.work(x, i % 2 == 0 ? "" : "hour;"), i % 2);
            Check.due("works " + i, x.count(2), i);
        }
        Check.due("one too many", Check.work(x, "hour;"), -20);
        Check.due("an empty one, too", x.work(0), -20);
        Check.due("still 16", x.count(2), 16);
        Check.due("still hour 8", x.told(3), 8);
        Check.due("undone", x.undo(), 15);
        Check.due("one more", Check.work(x, "hour;"), 1);
        Check.due("one too many", Check.work(x, "hour;"), -20);
    }

    // "-20 ahead of that (nothing is read, there is no FAULT, the TAPE is empty then)"
    private static void seventeenthIsNotRead() {
        StormHats x = Check.made(SMALL);
        for (int i = 1; i <= 15; i++) {
            Check.work(x, "hour;");
        }
        Check.doing(x, "doff 0;doff 0;", 0, 2);
        Check.bookFault(x, "x", 1, 0);
        Check.due("a fault is not seen", Check.work(x, "hour;hours;"), -20);
        Check.due("no fault", x.fault(), -1);
        Check.due("the tape is empty", x.count(1), 0);
        Check.due("nothing done", x.told(3), 15);
        Check.due("refused by the latest one", x.told(10), 2);
        Check.feed(x, "hour;");
        Check.illegal(x, "a wrong length all the same", () -> x.work(21));
        Check.due("the tape stays", x.count(1), 20);
    }

    // "or the FAULT less 10 (none is)"
    private static void workWithAFault() {
        StormHats x = busy();
        String days = Check.daysOf(x);
        String told = Check.toldOf(x);
        Check.workFault(x, "hour;oil 0;home 0;wear 0 2;", 2, 25);
        Check.due("the tape is empty", x.count(1), 0);
        Check.workFault(x, "hour;oil 0;home 0", 1, 17);
        Check.workFault(x, "hour;" + "again 1[".repeat(7), 3, 53);
        Check.same("no step was done", Check.daysOf(x), days);
        Check.same("it is no work", Check.toldOf(x), told);
    }

    // "how many STEPS were done (agains not counted, nor REFUSED ones)"
    private static void stepsCounted() {
        StormHats x = Check.made(SMALL);
        Check.doing(x, "again 3[again 2[oil 0;];];", 6, 0);
        Check.doing(x, "again 3[oil 0;];oil 0;", 3, 1);
        Check.doing(x, "again 3[oil 0;];", 0, 3);
        Check.doing(x, "again 0[oil 1;];again 30[];", 0, 0);
        Check.doing(x, "", 0, 0);
        Check.due("works", x.count(2), 5);
    }

    // "Likewise the BOOK (n to 60): how many lines"
    private static void books() {
        StormHats x = busy();
        String days = Check.daysOf(x);
        String told = Check.toldOf(x);
        Check.bookFault(x, "5 5;24 1;", 2, 4);
        Check.due("the tape is empty", x.count(1), 0);
        Check.bookFault(x, "0 0;1 1;2 2;3 3;4 4;5 5;6 6;7 7;8 8;", 3, 32);
        Check.bookFault(x, "0 0;x", 1, 4);
        Check.same("days", Check.daysOf(x), days);
        Check.same("told", Check.toldOf(x), told);
        Check.due("the book stays", x.fits(0, 1), 0);
        Check.due("another", Check.book(x, "0 12;"), 1);
        Check.due("no line of the other one", x.fits(0, 1), 10);
        Check.due("an empty one", x.book(0), 0);
        Check.due("all pairs fit", x.fits(0, 0), 4);
    }

    // "The place of the FAULT of the latest text; NONE without"
    private static void faults() {
        StormHats x = new StormHats();
        Check.due("no text", x.fault(), -1);
        Check.coastFault(x, "man 9;x", 1, 6);
        Check.due("asked again", x.fault(), 6);
        Check.due("a right one", Check.coast(x, "man 9;"), 1);
        Check.due("none", x.fault(), -1);
        Check.lawFault(x, "1+1000", 2, 2);
        Check.due("a right one of another kind", Check.book(x, "1 1;"), 1);
        Check.due("none", x.fault(), -1);
        Check.workFault(x, "hour;x", 1, 5);
        Check.bookFault(x, "24 0;", 2, 0);
        x.undo();
        x.image();
        x.restore();
        Check.due("no text came", x.fault(), 0);
        Check.illegal(x, "no text either", () -> x.law(1));
        Check.due("no text came", x.fault(), 0);
        Check.due("a right one", Check.law(x, "1"), 1);
        Check.due("none", x.fault(), -1);
        Check.bookFault(x, "  ;", 1, 2);
        Check.due("a right one", Check.work(x, "hour;"), 1);
        Check.due("none", x.fault(), -1);
    }

    // "The latest WORK that was done is undone: how many are left; -1: there is none"
    private static void undoing() {
        StormHats x = Check.made(SMALL);
        Check.due("none", x.undo(), -1);
        String first = Check.daysOf(x);
        Check.doing(x, "wear 0 1;sail 0 0;oil 0;wear 1 0;hour;", 5, 0);
        String second = Check.daysOf(x);
        Check.doing(x, "doff 0;doff 0;doff 0;", 1, 2);
        Check.workFault(x, "die 0;x", 1, 6);
        Check.due("one left", x.undo(), 1);
        Check.same("as ahead of it", Check.daysOf(x), second);
        Check.due("no steps refused", x.told(10), 0);
        Check.due("none left", x.undo(), 0);
        Check.same("as at first", Check.daysOf(x), first);
        Check.due("none", x.undo(), -1);
        Check.due("and again", x.undo(), -1);
        Check.due("no works", x.count(2), 0);
        Check.doing(x, "doff 0;", 0, 1);
        Check.due("one that did nothing", x.undo(), 0);
        Check.due("a work of no steps", x.work(0), 0);
        Check.due("is one, too", x.undo(), 0);
    }

    // "0 HATS, 1 GROUNDS, 2 MEN, .."; "IllegalArgumentException: another what"; "0 ahead of any, behind undo(), restore()"
    private static void toldThings() {
        StormHats x = Check.made("hat 1 0;".repeat(8) + "ground 999 0;".repeat(6) + "man 99;".repeat(6));
        int[] due = {8, 6, 6, 0, 63, 0, 0, 5994, 0, 0, 0};
        for (int what = 0; what <= 10; what++) {
            Check.due("told " + what, x.told(what), due[what]);
        }
        Check.doing(x, "wear 5 7;sail 5 5;wear 0 0;sail 0 0;die 1;hour;die 1;", 6, 1);
        Check.book(x, "0 0;1 0;2 0;3 0;4 0;5 0;6 0;7 0;");
        int[] then = {8, 6, 6, 1, 61, 33, 129, 5976, 18, 8, 1};
        for (int what = 0; what <= 10; what++) {
            Check.due("told " + what + " then", x.told(what), then[what]);
        }
        x.image();
        Check.due("an image changes nothing", x.told(10), 1);
        x.restore();
        Check.due("behind restore()", x.told(10), 0);
        Check.doing(x, "die 1;", 0, 1);
        x.undo();
        Check.due("behind undo()", x.told(10), 0);
        for (int far : FAR) {
            Check.illegal(x, "told " + far, () -> x.told(far));
        }
        Check.illegal(x, "told 11", () -> x.told(11));
    }

    // "Of a HAT: .. 2 who wears it (NONE)"; "NoSuchElementException: no such HAT .. ahead of others"
    private static void toldOfHats() {
        StormHats x = Check.made("hat 12 7;hat 1 0;man 9;man 9;");
        Check.due("nobody wears it", x.hat(0, 2), -1);
        Check.doing(x, "wear 1 0;oil 0;", 2, 0);
        int[] due = {12, 7, 1, 1};
        for (int what = 0; what < 4; what++) {
            Check.due("hat 0, " + what, x.hat(0, what), due[what]);
        }
        Check.due("nobody wears the other", x.hat(1, 2), -1);
        for (int far : FAR) {
            Check.missing(x, "hat " + far, () -> x.hat(far, far));
            Check.illegal(x, "hat, what " + far, () -> x.hat(1, far));
        }
        Check.missing(x, "hat 2", () -> x.hat(2, 4));
        Check.illegal(x, "hat, what 4", () -> x.hat(1, 4));
    }

    // "Of a GROUND: 0 fish that are left, 1 D, 2 MEN there (bits), 3 fish as told"
    private static void toldOfGrounds() {
        StormHats x = Check.made("hat 1 4;hat 1 4;ground 0 7;ground 999 0;man 9;man 9;man 9;");
        Check.doing(x, "wear 0 0;wear 2 1;sail 0 1;sail 2 1;hour;", 5, 0);
        int[] due = {981, 0, 5, 999};
        for (int what = 0; what < 4; what++) {
            Check.due("ground 1, " + what, x.ground(1, what), due[what]);
        }
        int[] empty = {0, 7, 0, 0};
        for (int what = 0; what < 4; what++) {
            Check.due("ground 0, " + what, x.ground(0, what), empty[what]);
        }
        for (int far : FAR) {
            Check.missing(x, "ground " + far, () -> x.ground(far, far));
            Check.illegal(x, "ground, what " + far, () -> x.ground(1, far));
        }
        Check.missing(x, "ground 2", () -> x.ground(2, 4));
        Check.illegal(x, "ground, what 4", () -> x.ground(1, 4));
    }

    // "Of a MAN: .. 2 the HAT he wears (NONE), 3 the GROUND (NONE: at home, DEAD), .. 6 his heir (NONE), 7 1 he lives, 0 not"
    private static void toldOfMen() {
        StormHats x = Check.made("hat 1 0;hat 2 0;ground 50 0;man 9;man 99;heir 1 0;");
        int[] first = {9, 0, -1, -1, 0, 0, -1, 1};
        for (int what = 0; what < 8; what++) {
            Check.due("man 0, " + what, x.man(0, what), first[what]);
        }
        Check.doing(x, "wear 1 1;sail 1 0;hour;hour;", 4, 0);
        int[] then = {99, 12, 1, 0, 2, 18, 0, 1};
        for (int what = 0; what < 8; what++) {
            Check.due("man 1, " + what, x.man(1, what), then[what]);
        }
        Check.doing(x, "die 1;", 1, 0);
        int[] dead = {99, 12, -1, -1, 0, 18, 0, 0};
        for (int what = 0; what < 8; what++) {
            Check.due("man 1 dead, " + what, x.man(1, what), dead[what]);
        }
        for (int far : FAR) {
            Check.missing(x, "man " + far, () -> x.man(far, far));
            Check.illegal(x, "man, what " + far, () -> x.man(1, far));
        }
        Check.missing(x, "man 2", () -> x.man(2, 8));
        Check.illegal(x, "man, what 8", () -> x.man(1, 8));
    }

    // "SEA of a MAN now (0: he is at no GROUND, or wears nothing)"
    private static void seas() {
        StormHats x = Check.made("hat 12 0;ground 50 0;man 99;man 99;");
        Check.law(x, "50");
        Check.due("at home, bare", x.sea(0), 0);
        Check.doing(x, "wear 0 0;", 1, 0);
        Check.due("at home with a hat", x.sea(0), 0);
        Check.doing(x, "sail 0 0;", 1, 0);
        Check.due("at a ground with a hat", x.sea(0), 50);
        Check.doing(x, "doff 0;", 1, 0);
        Check.due("at a ground, bare", x.sea(0), 0);
        Check.doing(x, "wear 0 0;die 0;", 2, 0);
        Check.due("dead", x.sea(0), 0);
        for (int far : FAR) {
            Check.missing(x, "sea " + far, () -> x.sea(far));
        }
        Check.missing(x, "sea 2", () -> x.sea(2));
    }

    // image: "how many there are; -1: there are 3"; restore: "the latest IMAGE, which is gone: how many are left; -1: there is none"
    private static void threeImages() {
        StormHats x = Check.made(SMALL);
        Check.due("none", x.restore(), -1);
        for (int i = 1; i <= 3; i++) {
            Check.due("image " + i, x.image(), i);
            Check.doing(x, "hour;", 1, 0);
        }
        Check.due("a fourth", x.image(), -1);
        Check.due("and again", x.image(), -1);
        Check.due("still three", x.count(0), 3);
        for (int i = 2; i >= 0; i--) {
            Check.due("restore " + i, x.restore(), i);
            Check.due("hour " + i, x.told(3), i);
        }
        Check.due("none", x.restore(), -1);
        Check.due("none", x.count(0), 0);
        Check.due("the first anew", x.image(), 1);
    }

    // "An IMAGE of all that WORK changes"
    private static void imageOfAllThatWorkChanges() {
        StormHats x = busy();
        String days = Check.daysOf(x);
        Check.doing(x, "oil 0;hour;home 0;sail 0 1;hour;doff 0;die 0;", 7, 0);
        Check.due("not as it was", Check.daysOf(x).equals(days) ? 1 : 0, 0);
        Check.due("restore", x.restore(), 0);
        Check.same("as it was", Check.daysOf(x), days);
    }

    // "and of the WORKS that can be undone"
    private static void imageOfWorks() {
        StormHats x = Check.made(SMALL);
        for (int i = 0; i < 16; i++) {
            Check.doing(x, "hour;", 1, 0);
        }
        Check.due("image", x.image(), 1);
        for (int i = 15; i >= 0; i--) {
            Check.due("undo", x.undo(), i);
        }
        Check.due("an image without works", x.image(), 2);
        Check.doing(x, "oil 0;", 1, 0);
        Check.due("restore", x.restore(), 1);
        Check.due("nothing to undo", x.undo(), -1);
        for (int i = 0; i < 15; i++) {
            Check.doing(x, "oil 1;", i < 9 ? 1 : 0, i < 9 ? 0 : 1);
        }
        Check.due("restore", x.restore(), 0);
        Check.due("16 works", x.count(2), 16);
        Check.due("so many", Check.work(x, ""), -20);
        for (int i = 15; i >= 0; i--) {
            Check.due("undo", x.undo(), i);
            Check.due("hour", x.told(3), i);
        }
        Check.due("not oiled", x.hat(1, 3), 0);
    }

    // What WORK doesn't change stays: LAW, BOOK, TAPE, refusals.
    private static void whatNoImageKeeps() {
        StormHats x = Check.made(SMALL);
        Check.due("image", x.image(), 1);
        Check.law(x, "7");
        Check.book(x, "0 7;");
        Check.missing(x, "man", () -> x.man(9, 0));
        Check.illegal(x, "told", () -> x.told(99));
        Check.bookFault(x, "x", 1, 0);
        Check.feed(x, "hour;");
        Check.due("restore", x.restore(), 0);
        Check.due("law", x.would(1, 0, 0, 1, 0, 0, 0, 0), 7);
        Check.due("book", x.told(9), 1);
        Check.due("missing", x.status(0), 1);
        Check.due("illegal", x.status(1), 1);
        Check.due("fault", x.fault(), 0);
        Check.due("tape", x.count(1), 20);
        Check.due("which is as it was", x.work(5), 1);
        Check.due("the tape's step", x.told(3), 1);
    }

    private static void restoreWithoutOne() {
        StormHats x = busy();
        x.restore();
        Check.doing(x, "hour;doff 1;", 1, 1);
        String days = Check.daysOf(x);
        String told = Check.toldOf(x);
        Check.due("none", x.restore(), -1);
        Check.same("days", Check.daysOf(x), days);
        Check.same("told", Check.toldOf(x), told);
    }

    // status: "How many calls were refused: 0 NoSuchElementException, 1 IllegalArgumentException; NONE for others"
    private static void refusals() {
        StormHats x = Check.made(SMALL);
        Check.due("none", x.status(0), 0);
        Check.due("none", x.status(1), 0);
        Check.missing(x, "sea", () -> x.sea(9));
        Check.missing(x, "both are wrong", () -> x.hat(9, 9));
        Check.illegal(x, "from", () -> x.from(9));
        x.undo();
        x.restore();
        Check.coastFault(x, "x", 1, 0);
        Check.due("missing", x.status(0), 2);
        Check.due("illegal", x.status(1), 1);
        Check.coast(x, SMALL);
        Check.due("missing, by another coast", x.status(0), 2);
        Check.due("illegal, by another coast", x.status(1), 1);
        for (int far : FAR) {
            Check.due("status " + far, x.status(far), -1);
        }
        Check.due("status 2", x.status(2), -1);
        Check.due("no refused call by that", x.status(1), 1);
    }

    // count: "0 IMAGES, 1 bytes of the TAPE, 2 WORKS that can be undone; NONE for others"
    private static void counts() {
        StormHats x = busy();
        Check.feed(x, "hour;" + " ".repeat(50));
        Check.due("images", x.count(0), 1);
        Check.due("bytes", x.count(1), 60);
        Check.due("works", x.count(2), 2);
        for (int far : FAR) {
            Check.due("count " + far, x.count(far), -1);
        }
        Check.due("count 3", x.count(3), -1);
        Check.due("no refused call by that", x.status(0) + x.status(1), 0);
    }
}
