/** Promises 1 to 7: the TAPE, the four texts and their FAULTS. */
public final class TextTest {
    public static void main(String[] args) {
        newObject();
        feeding();
        coasts();
        coastFaults();
        laws();
        lawFaults();
        works();
        books();
        Check.end();
    }

    private static void newObject() {
        StormHats x = new StormHats();
        for (int what = 0; what <= 10; what++) {
            Check.due("new told " + what, x.told(what), 0);
        }
        Check.due("new fault", x.fault(), -1);
        Check.due("new count 0", x.count(0), 0);
        Check.due("new count 1", x.count(1), 0);
        Check.due("new count 2", x.count(2), 0);
        Check.due("new status 0", x.status(0), 0);
        Check.due("new status 1", x.status(1), 0);
        Check.due("the law without one", x.would(10, 2, 0, 1, 0, 0, 0, 0), 22);
    }

    private static void feeding() {
        StormHats x = new StormHats();
        for (int i = 1; i <= 30; i++) {
            Check.due("feed", x.feed(0, 0, 0, 0, 0), 20 * i);
        }
        Check.due("feed over 600", x.feed(1, 1, 1, 1, 1), -1);
        Check.due("tape stays", x.count(1), 600);
        StormHats y = new StormHats();
        y.feed(0x6D616E20, 0x37373B20, 0x20202020, 0x20202020, 0xFF202020);
        Check.due("highest byte first", y.coast(16), 1);
        Check.due("the boat", y.man(0, 0), 77);
        Check.due("tape is empty", y.count(1), 0);
    }

    private static void coasts() {
        StormHats x = new StormHats();
        Check.due("coast", Check.coast(x, "  hat12 7 ;ground 999 7;ground0 0; man 99;man0001;heir 1 0;heir 1 1;  "), 2);
        Check.due("fault", x.fault(), -1);
        Check.due("force", x.hat(0, 0), 12);
        Check.due("side", x.hat(0, 1), 7);
        Check.due("fish", x.ground(0, 0), 999);
        Check.due("fish as told", x.ground(1, 3), 0);
        Check.due("open side", x.ground(0, 1), 7);
        Check.due("boat", x.man(1, 0), 1);
        Check.due("no heir", x.man(0, 6), -1);
        Check.due("the last heir counts", x.man(1, 6), 1);
        Check.feed(x, "hat 1 1;");
        Check.illegal(x, "coast(-1)", () -> x.coast(-1));
        Check.illegal(x, "coast(21)", () -> x.coast(21));
        Check.due("tape stays", x.count(1), 20);
        Check.due("fault stays", x.fault(), -1);
        Check.due("coast of a part of the tape", x.coast(8), 0);
        Check.due("hats anew", x.told(0), 1);
        Check.due("grounds anew", x.told(1), 0);
        forgets();
        Check.due("sixty clauses", Check.coast(new StormHats(), "man 1;" + "heir 0 0;".repeat(59)), 1);
        Check.due("all full", Check.coast(new StormHats(), "hat 1 0;".repeat(8) + "ground 1 0;".repeat(6)
                + "man 1;".repeat(6)), 6);
    }

    /** A COAST begins all anew; one with a FAULT changes nothing but the TAPE. */
    private static void forgets() {
        StormHats x = new StormHats();
        Check.coast(x, "hat 5 0;ground 50 0;man 99;");
        Check.law(x, "7");
        Check.book(x, "3 7;");
        Check.work(x, "wear 0 0;sail 0 0;hour;hour;doff 0;doff 0;");
        x.image();
        Check.coastFault(x, "hat 1 0;man 0;", 2, 12);
        Check.due("tape is empty behind a fault", x.count(1), 0);
        Check.due("hour stays", x.told(3), 2);
        Check.due("refused stays", x.told(10), 1);
        Check.due("book stays", x.told(9), 1);
        Check.due("images stay", x.count(0), 1);
        Check.due("works stay", x.count(2), 1);
        Check.due("law stays", x.would(1, 0, 0, 1, 0, 0, 0, 0), 7);
        Check.due("coast anew", Check.coast(x, "hat 5 0;ground 50 0;man 99;"), 1);
        Check.due("hour anew", x.told(3), 0);
        Check.due("refused anew", x.told(10), 0);
        Check.due("no book", x.told(9), 0);
        Check.due("no images", x.count(0), 0);
        Check.due("no works", x.count(2), 0);
        Check.due("nothing to undo", x.undo(), -1);
        Check.due("no law", x.would(1, 0, 0, 1, 0, 0, 0, 0), 3);
        Check.due("fish anew", x.ground(0, 0), 50);
        Check.due("hurt anew", x.man(0, 1), 0);
        Check.due("landed anew", x.told(8), 0);
    }

    private static void coastFaults() {
        StormHats x = new StormHats();
        Check.coastFault(x, "hat", 1, 3);
        Check.coastFault(x, "hat  ", 1, 5);
        Check.coastFault(x, "hat 1", 1, 5);
        Check.coastFault(x, "hat 1 1", 1, 7);
        Check.coastFault(x, "hat 11;", 1, 6);
        Check.coastFault(x, "hat 1 1 1;", 1, 8);
        Check.coastFault(x, " hat 1 x;", 1, 7);
        Check.coastFault(x, "Hat 1 1;", 1, 0);
        Check.coastFault(x, "hatt 1 1;", 1, 0);
        Check.coastFault(x, ";", 1, 0);
        Check.coastFault(x, "man 1;;", 1, 6);
        Check.coastFault(x, "  5", 1, 2);
        Check.coastFault(x, "man\t1;", 1, 3);
        Check.coastFault(x, "man 1;\u00ff", 1, 6);
        Check.coastFault(x, "hatz 1 1;", 1, 0);
        Check.coastFault(x, "hata 1 1;", 1, 0);
        Check.coastFault(x, "hat{1 1;", 1, 3);
        Check.coastFault(x, "hat/1 1;", 1, 3);
        Check.coastFault(x, "hat:1 1;", 1, 3);
        Check.coastFault(x, "hat 0 8;", 2, 4);
        Check.coastFault(x, "hat 13 0;", 2, 4);
        Check.coastFault(x, "hat 12 8;", 2, 7);
        Check.coastFault(x, "ground 999 8;", 2, 11);
        Check.coastFault(x, "man 0;", 2, 4);
        Check.coastFault(x, "man 100;", 2, 4);
        Check.coastFault(x, "man 1;heir 0 1;man 1;", 2, 13);
        Check.coastFault(x, "hat 99999999999999999999 0;", 2, 4);
        Check.coastFault(x, "hat 4294967297 0;", 2, 4);
        Check.coastFault(x, "ground 1000 0;", 2, 7);
        Check.coastFault(x, "man 1;heir 1 0;", 2, 11);
        Check.coastFault(x, "heir 0 0;man 1;", 2, 5);
        Check.coastFault(x, "hat 1 0;".repeat(8) + "hat 0", 3, 64);
        Check.coastFault(x, "hat 1 0;".repeat(8) + "hats", 1, 64);
        Check.coastFault(x, "ground 1 0;".repeat(6) + " ground", 3, 67);
        Check.coastFault(x, "man 1;".repeat(7), 3, 36);
        Check.coastFault(x, "man 1;" + "heir 0 0;".repeat(60), 3, 537);
        Check.coastFault(x, "man 1;" + "heir 0 0;".repeat(59) + "x", 1, 537);
        Check.coastFault(x, "man 1;" + "heir 0 0;".repeat(59) + "hat 0", 3, 537);
        Check.due("no coast by all that", x.told(0) + x.told(1) + x.told(2), 0);
    }

    private static int by(StormHats x, String law) {
        Check.due("law " + law, Check.law(x, law), 1);
        return x.would(21, 4, 999, 99, 998, 997, 5, 900);
    }

    private static void laws() {
        StormHats x = new StormHats();
        Check.due("force", by(x, "force"), 21);
        Check.due("angle", by(x, "angle"), 4);
        Check.due("hours", by(x, "hours-990"), 9);
        Check.due("boat", by(x, "boat"), 99);
        Check.due("hurt", by(x, "hurt-990"), 8);
        Check.due("fish", by(x, "fish - 990"), 7);
        Check.due("others", by(x, " others "), 5);
        Check.due("hour", by(x, "hour-890"), 10);
        Check.due("left to right", by(x, "50-20-10"), 20);
        Check.due("products first", by(x, "2+3*4"), 14);
        Check.due("products left to right", by(x, "7/2*2%4"), 2);
        Check.due("brackets", by(x, "( 2 + 3 )*4"), 20);
        Check.due("cut to zero", by(x, "(3-10)/2+50"), 47);
        Check.due("left with the sign", by(x, "(3-10)%4+50"), 47);
        Check.due("by 0", by(x, "7/0+7%0+1"), 1);
        Check.due("least", by(x, "least[7,9]"), 7);
        Check.due("most", by(x, "most [ 7 , 9 ] "), 9);
        Check.due("at least 0", by(x, "5-6"), 0);
        Check.due("at most 99", by(x, "100"), 99);
        Check.due("at most 99", by(x, "99"), 99);
        Check.due("wraps", by(x, "(512*512*512*16)/1-1"), 99);
        Check.due("wraps to 0", by(x, "512*512*512*32+3"), 3);
        Check.due("divided at the edge", by(x, "(512*512*512*16)/(0-1)+1"), 0);
        Check.due("left at the edge", by(x, "(512*512*512*16)%(0-1)+1"), 1);
        Check.due("six open", by(x, "((((((5))))))"), 5);
        Check.due("open and shut", by(x, "((((((5))))))+((((((6))))))"), 11);
        Check.due("six of all", by(x, "(least[9,most[1,(least[8,(4)])]])"), 4);
        Check.due("nested", by(x, "least[most[1,2]*3,most[4,5]]"), 5);
        Check.due("150 bytes", by(x, "1" + "+1".repeat(74) + " "), 75);
        Check.coast(x, "");
        Check.due("no law again", x.would(9, 1, 0, 1, 0, 0, 0, 0), 23);
        Check.due("deep", by(x, "1+2*(3+4*(5+6*least[7,8+9*most[1,2+3*(4+5*(6+7%8))]]))"), 99);
        Check.due("deep", by(x, "1-2*(3-4*(5-6*least[7,8-9*most[1,2-3*(4-5*(6-7%8))]]))"), 83);
        Check.due("fault", x.fault(), -1);
        Check.feed(x, "1" + " ".repeat(159));
        Check.illegal(x, "law(151)", () -> x.law(151));
        Check.illegal(x, "law(-1)", () -> x.law(-1));
        Check.due("tape stays", x.count(1), 160);
        Check.due("law(150)", x.law(150), 1);
        Check.due("tape is empty", x.count(1), 0);
        Check.illegal(x, "law(1)", () -> x.law(1));
    }

    private static void lawFaults() {
        StormHats x = new StormHats();
        Check.law(x, "8");
        Check.lawFault(x, "", 1, 0);
        Check.lawFault(x, "   ", 1, 3);
        Check.lawFault(x, "1 2", 1, 2);
        Check.lawFault(x, "1+", 1, 2);
        Check.lawFault(x, "1++1", 1, 2);
        Check.lawFault(x, "-1", 1, 0);
        Check.lawFault(x, "force force", 1, 6);
        Check.lawFault(x, "forces", 1, 0);
        Check.lawFault(x, "(1", 1, 2);
        Check.lawFault(x, "(1]", 1, 2);
        Check.lawFault(x, "1)", 1, 1);
        Check.lawFault(x, "least(1,2)", 1, 5);
        Check.lawFault(x, "least[1)", 1, 7);
        Check.lawFault(x, "least[1]", 1, 7);
        Check.lawFault(x, "most[1,2,3]", 1, 8);
        Check.lawFault(x, "most[1,]", 1, 7);
        Check.lawFault(x, "least[,1]", 1, 6);
        Check.lawFault(x, "1000+", 2, 0);
        Check.lawFault(x, "1+ 01000", 2, 3);
        Check.lawFault(x, "((((((least[1,2]))))))", 3, 6);
        Check.lawFault(x, "((((((  most", 3, 8);
        Check.lawFault(x, "((((((most5", 3, 6);
        Check.lawFault(x, "((((((x", 1, 6);
        Check.lawFault(x, "least[1,(((((1+(2))))))]", 3, 15);
        Check.due("law stays", x.would(1, 0, 0, 1, 0, 0, 0, 0), 8);
    }

    private static void works() {
        Check.due("thirty steps in 150 bytes", Check.work(new StormHats(), "hour;".repeat(30)), 30);
        StormHats x = new StormHats();
        Check.coast(x, "hat 5 0;hat 6 0;ground 50 0;man 99;man 98;");
        Check.due("empty", Check.work(x, ""), 0);
        Check.due("blanks", Check.work(x, "  "), 0);
        Check.due("tight", Check.work(x, "wear0 0;sail0 0;again2[hour ; ] ; "), 4);
        Check.workFault(x, "hour", 1, 4);
        Check.workFault(x, "hour;]", 1, 5);
        Check.workFault(x, "again 1[hour;", 1, 13);
        Check.workFault(x, "again 1[hour]", 1, 12);
        Check.workFault(x, "again 1 hour", 1, 8);
        Check.workFault(x, "again 1[hour;]", 1, 14);
        Check.workFault(x, "again [", 1, 6);
        Check.workFault(x, "again 31[", 2, 6);
        Check.workFault(x, "wear 0;", 1, 6);
        Check.workFault(x, "wear 2 0;", 2, 5);
        Check.workFault(x, "wear 0 2;", 2, 7);
        Check.workFault(x, "sail 0 1;", 2, 7);
        Check.workFault(x, "oil 2;", 2, 4);
        Check.workFault(x, "die 2;", 2, 4);
        Check.workFault(x, "home 2;", 2, 5);
        Check.workFault(x, "doff 2;", 2, 5);
        Check.workFault(x, "hour;hour;rest;", 1, 10);
        Check.workFault(x, "again 1[".repeat(6) + "hour;again", 3, 53);
        Check.workFault(x, "again 1[".repeat(6) + "agains", 1, 48);
        Check.due("six open", Check.work(x, "again 1[".repeat(6) + "hour;" + "];".repeat(6)), 1);
        Check.due("none was done by faults", x.told(3), 3);
        Check.due("works", x.count(2), 4);
        Check.feed(x, "hour;" + " ".repeat(155));
        Check.illegal(x, "work(151)", () -> x.work(151));
        Check.illegal(x, "work(-1)", () -> x.work(-1));
        Check.due("work(150)", x.work(150), 1);
        for (int i = 5; i < 16; i++) {
            Check.due("work", Check.work(x, "hour;"), 1);
        }
        Check.workFault(x, "hour;x", -10, -1);
        Check.due("tape is empty behind 16 works", x.count(1), 0);
        Check.illegal(x, "work(1) without a tape", () -> x.work(1));
        Check.due("undo", x.undo(), 15);
        Check.due("work again", Check.work(x, "hour;"), 1);
        Check.due("and full again", Check.work(x, "hour;"), -20);
        Check.workFault(new StormHats(), "die 0;", 2, 4);
    }

    private static void books() {
        StormHats x = new StormHats();
        Check.due("no lines", Check.book(x, " "), 0);
        Check.due("lines", Check.book(x, "0 0;23 99; 7 07 ;"), 3);
        Check.due("told", x.told(9), 3);
        Check.bookFault(x, "0", 1, 1);
        Check.bookFault(x, "0 0", 1, 3);
        Check.bookFault(x, "x 0;", 1, 0);
        Check.bookFault(x, "0 x;", 1, 2);
        Check.bookFault(x, "24 0;", 2, 0);
        Check.bookFault(x, "23 100;", 2, 3);
        Check.bookFault(x, "1 1;01 1;", 2, 4);
        Check.bookFault(x, "0 0;1 0;2 0;3 0;4 0;5 0;6 0;7 0; 8", 3, 33);
        Check.bookFault(x, "0 0;1 0;2 0;3 0;4 0;5 0;6 0;7 0;7", 2, 32);
        Check.bookFault(x, "0 0;1 0;2 0;3 0;4 0;5 0;6 0;7 0;24", 2, 32);
        Check.bookFault(x, "0 0;1 0;2 0;3 0;4 0;5 0;6 0;7 0;x", 1, 32);
        Check.due("told stays", x.told(9), 3);
        Check.due("eight lines", Check.book(x, "0 0;1 0;2 0;3 0;4 0;5 0;6 0;7 0;"), 8);
        Check.feed(x, " ".repeat(80));
        Check.illegal(x, "book(61)", () -> x.book(61));
        Check.due("book(60)", x.book(60), 0);
        Check.due("told anew", x.told(9), 0);
    }
}
