import java.lang.management.ManagementFactory;

/** What is made: rows in the constructor, and nothing by calls but the exceptions that are due. */
public final class RoomTest {
    private static final com.sun.management.ThreadMXBean THREADS =
            (com.sun.management.ThreadMXBean) ManagementFactory.getThreadMXBean();

    private static long made() {
        return THREADS.getThreadAllocatedBytes(Thread.currentThread().getId());
    }

    public static void main(String[] args) {
        StormHats first = played();
        long before = made();
        StormHats x = new StormHats();
        long object = made() - before;
        Check.due("bytes of an object: " + object, object < 40000 ? 1 : 0, 1);
        before = made();
        ask(x);
        ask(first);
        long calls = made() - before;
        Check.due("men were asked", first.status(0) + first.status(1), 0);
        Check.due("bytes by calls: " + calls, calls < 4000 ? 1 : 0, 1);
        Check.end();
    }

    /** All that a first call makes (texts of constants and the like) is made here. */
    private static StormHats played() {
        StormHats x = new StormHats();
        tell(x);
        ask(x);
        x.coast(0);
        tell(x);
        return x;
    }

    private static void tell(StormHats x) {
        Check.coast(x, "hat 9 0;hat 4 3;hat 6 6;ground 90 0;ground 70 5;man 60;man 40;man 20;heir 0 1;heir 1 2;");
        Check.law(x, "least[force*3-angle*4,most[hours,hurt/2]]+1");
        Check.book(x, "1 2;3 4;");
        Check.work(x, "wear 0 0;sail 0 0;hour;");
    }

    private static void ask(StormHats x) {
        for (int i = 0; i < 11; i++) {
            x.told(i);
        }
        x.fault();
        x.image();
        x.work(0);
        x.undo();
        x.restore();
        x.law(0);
        x.book(0);
        x.ahead(99, 0);
        x.squall(3, 9, 0);
        x.two(3, 4, 2);
        x.best(0);
        x.from(3);
        x.season(5, 3, 96, 0);
        x.span(5, 20, 3, 96, 0);
        if (x.told(2) > 0) {
            askMen(x);
        }
        x.coast(0);
        x.feed(1, 2, 3, 4, 5);
    }

    private static void askMen(StormHats x) {
        x.hat(0, 2);
        x.ground(0, 2);
        x.man(0, 2);
        x.sea(0);
        x.doom(0);
        x.suits(0, 0, 24, 0);
        x.hatted(0);
        x.given(0, 0);
        x.line(0, 1000000);
        x.meets(0, 1, 0);
        x.fits(0, 0);
        x.look(0, 0);
        x.fleet(0, 9);
        x.share(0, 7, 30);
        x.row(0);
    }
}
