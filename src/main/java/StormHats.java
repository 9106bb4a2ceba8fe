import java.util.Arrays;
import java.util.NoSuchElementException;

/** Sou'westers are hereditary: see README.md, and the document that it names. */
public final class StormHats {
    public static final int NONE = -1;

    private static final int MOST_HATS = 8;
    private static final int MOST_GROUNDS = 6;
    private static final int MOST_MEN = 6;
    private static final int SIDES = 8;
    private static final int TAPE_BYTES = 600;
    private static final int LAW_BYTES = 150;
    private static final int WORK_BYTES = 150;
    private static final int BOOK_BYTES = 60;
    private static final int MOST_OPEN = 6;
    private static final int MOST_WORKS = 16;
    private static final int MOST_IMAGES = 3;
    private static final int LAST_HOUR = 900;
    private static final int DAY = 24;
    private static final int ROUGHEST = 99;
    private static final int MOST_OF_ALL = 2147483647;

    private static final int FAULT_PLACE = 1;
    private static final int FAULT_NUMBER = 2;
    private static final int FAULT_MANY = 3;
    private static final int FAULT_LESS = 10;
    private static final int WORKS_FULL = -20;

    // What a LAW may ask for, in the order of would().
    private static final int FORCE = 0;
    private static final int ANGLE = 1;
    private static final int HOURS = 2;
    private static final int BOAT = 3;
    private static final int HURT = 4;
    private static final int FISH = 5;
    private static final int OTHERS = 6;
    private static final int HOUR = 7;
    private static final int FACTS = 8;

    private final Tape tape = new Tape();
    private final Shore shore = new Shore();
    private final Days days = new Days();
    private final Days guess = new Days();
    private final Work steps = new Work();
    private final History past = new History();
    private final Alone alone = new Alone();
    private final Season seasons = new Season();
    // A text is read into the spare one, which is changed for the other only if it has no FAULT.
    private Coast spareCoast = new Coast();
    private Law spareLaw = new Law();
    private Book lines = new Book();
    private Book spareBook = new Book();
    private int refusedSteps;
    private int missing;
    private int wrong;

    public StormHats() {
        days.begin(shore.coast);
    }

    public int feed(int a, int b, int c, int d, int e) {
        if (tape.size + 20 > TAPE_BYTES) {
            return NONE;
        }
        tape.append(a);
        tape.append(b);
        tape.append(c);
        tape.append(d);
        tape.append(e);
        return tape.size;
    }

    public int coast(int n) throws IllegalArgumentException {
        needText(n, TAPE_BYTES);
        tape.open(n);
        if (!spareCoast.readText(tape)) {
            return tape.faultCode - FAULT_LESS;
        }
        Coast old = shore.coast;
        shore.coast = spareCoast;
        spareCoast = old;
        shore.rule.beStandard();
        lines.size = 0;
        past.forget();
        refusedSteps = 0;
        days.begin(shore.coast);
        return shore.coast.men;
    }

    public int law(int n) throws IllegalArgumentException {
        needText(n, LAW_BYTES);
        tape.open(n);
        if (!spareLaw.readText(tape)) {
            return tape.faultCode - FAULT_LESS;
        }
        Law old = shore.rule;
        shore.rule = spareLaw;
        spareLaw = old;
        return 1;
    }

    public int work(int n) throws IllegalArgumentException {
        needText(n, WORK_BYTES);
        tape.open(n);
        if (past.works >= MOST_WORKS) {
            return WORKS_FULL;
        }
        if (!steps.readText(tape, shore.coast)) {
            return tape.faultCode - FAULT_LESS;
        }
        past.keepWork(days);
        steps.begin(days, shore);
        refusedSteps = steps.refused;
        return steps.done;
    }

    public int book(int n) throws IllegalArgumentException {
        needText(n, BOOK_BYTES);
        tape.open(n);
        if (!spareBook.readText(tape)) {
            return tape.faultCode - FAULT_LESS;
        }
        Book old = lines;
        lines = spareBook;
        spareBook = old;
        return lines.size;
    }

    public int fault() {
        return tape.faultPlace;
    }

    public int undo() {
        if (!past.dropWork(days)) {
            return -1;
        }
        refusedSteps = 0;
        return past.works;
    }

    public int told(int what) throws IllegalArgumentException {
        needWithin(what, 0, 10);
        switch (what) {
            case 0:
                return shore.coast.hats;
            case 1:
                return shore.coast.grounds;
            case 2:
                return shore.coast.men;
            case 3:
                return days.hour;
            case 4:
                return days.living;
            case 5:
                return days.menAtSea();
            case 6:
                return days.hatsWorn();
            case 7:
                return days.fishLeft();
            case 8:
                return days.fishLanded();
            case 9:
                return lines.size;
            default:
                return refusedSteps;
        }
    }

    public int hat(int hat, int what) throws NoSuchElementException, IllegalArgumentException {
        needOneOf(hat, shore.coast.hats);
        needWithin(what, 0, 3);
        switch (what) {
            case 0:
                return shore.coast.hatForce[hat];
            case 1:
                return shore.coast.hatSide[hat];
            case 2:
                return days.wearerOf(hat);
            default:
                return days.oiled[hat];
        }
    }

    public int ground(int ground, int what) throws NoSuchElementException, IllegalArgumentException {
        needOneOf(ground, shore.coast.grounds);
        needWithin(what, 0, 3);
        switch (what) {
            case 0:
                return days.left[ground];
            case 1:
                return shore.coast.groundSide[ground];
            case 2:
                return days.menAt(ground);
            default:
                return shore.coast.groundFish[ground];
        }
    }

    public int man(int man, int what) throws NoSuchElementException, IllegalArgumentException {
        needOneOf(man, shore.coast.men);
        needWithin(what, 0, 7);
        switch (what) {
            case 0:
                return shore.coast.boat[man];
            case 1:
                return days.hurt[man];
            case 2:
                return days.wears[man];
            case 3:
                return days.at[man];
            case 4:
                return days.hours[man];
            case 5:
                return days.landed[man];
            case 6:
                return shore.coast.heir[man];
            default:
                return days.lives(man) ? 1 : 0;
        }
    }

    public int sea(int man) throws NoSuchElementException {
        needOneOf(man, shore.coast.men);
        return shore.seaOf(days, man);
    }

    public int would(int force, int angle, int hours, int boat, int hurt, int fish, int others, int hour)
            throws IllegalArgumentException {
        needWithin(force, 1, 21);
        needWithin(angle, 0, 4);
        needWithin(hours, 0, 999);
        needWithin(boat, 1, 99);
        needWithin(hurt, 0, 999);
        needWithin(fish, 0, 999);
        needWithin(others, 0, 5);
        needWithin(hour, 0, LAST_HOUR);
        int[] facts = shore.facts;
        facts[FORCE] = force;
        facts[ANGLE] = angle;
        facts[HOURS] = hours;
        facts[BOAT] = boat;
        facts[HURT] = hurt;
        facts[FISH] = fish;
        facts[OTHERS] = others;
        facts[HOUR] = hour;
        return shore.rule.seaBy(facts);
    }

    public int ahead(int n, int what) throws IllegalArgumentException {
        needWithin(n, 0, 99);
        needWithin(what, 0, 2);
        guess.become(days);
        for (int i = 0; i < n; i++) {
            shore.passHour(guess);
        }
        return outcome(what);
    }

    public int doom(int man) throws NoSuchElementException {
        needOneOf(man, shore.coast.men);
        guess.become(days);
        for (int passed = 0; passed < 200; passed++) {
            if (!guess.lives(man)) {
                return passed;
            }
            shore.passHour(guess);
        }
        return guess.lives(man) ? NONE : 200;
    }

    public int suits(int man, int ground, int n, int what) throws NoSuchElementException, IllegalArgumentException {
        needOneOf(man, shore.coast.men);
        needOneOf(ground, shore.coast.grounds);
        needWithin(n, 0, DAY);
        needWithin(what, 0, 1);
        alone.chooseHat(shore, days, man, ground, n);
        return what == 0 ? alone.chosen : alone.chosenHurt;
    }

    public int hatted(int ground) throws NoSuchElementException {
        needOneOf(ground, shore.coast.grounds);
        return alone.giveHats(shore, days, ground);
    }

    public int given(int ground, int man) throws NoSuchElementException {
        needOneOf(ground, shore.coast.grounds);
        needOneOf(man, shore.coast.men);
        alone.giveHats(shore, days, ground);
        return alone.gifts[man];
    }

    public int line(int man, int n) throws NoSuchElementException, IllegalArgumentException {
        needOneOf(man, shore.coast.men);
        needWithin(n, 0, 1000000);
        return shore.coast.heirAfter(man, n);
    }

    public int meets(int man, int other, int what) throws NoSuchElementException, IllegalArgumentException {
        needOneOf(man, shore.coast.men);
        needOneOf(other, shore.coast.men);
        needWithin(what, 0, 1);
        int meeting = shore.coast.meetingOf(man, other);
        if (meeting == NONE || what == 0) {
            return meeting;
        }
        return shore.coast.stepsBetween(man, meeting) + shore.coast.stepsBetween(other, meeting);
    }

    public int fits(int man, int what) throws NoSuchElementException, IllegalArgumentException {
        needOneOf(man, shore.coast.men);
        needWithin(what, 0, 1);
        alone.findPairs(shore, days, lines, man, lines.hoursNeeded());
        return what == 0 ? alone.pairs : alone.firstPair;
    }

    public int look(int man, int what) throws NoSuchElementException, IllegalArgumentException {
        needOneOf(man, shore.coast.men);
        needWithin(what, 0, 1);
        alone.findPairs(shore, days, lines, man, DAY);
        alone.chooseHour(lines);
        return what == 0 ? alone.chosen : alone.chosenWorst;
    }

    public int fleet(int ground, int n) throws NoSuchElementException, IllegalArgumentException {
        needOneOf(ground, shore.coast.grounds);
        needWithin(n, 0, 99);
        return alone.fewestMen(shore, days, ground, n);
    }

    public long squall(int q, int n, int part) throws IllegalArgumentException {
        needWithin(q, 0, 16);
        needWithin(n, 0, 12);
        needWithin(part, 0, 1);
        long none = 1;
        long one = 0;
        long all = 1;
        for (int hour = 0; hour < n; hour++) {
            one = one * (16 - q) + none * q;
            none = none * (16 - q);
            all = all * 16;
        }
        long divisor = greatestDivisor(none + one, all);
        return part == 0 ? (none + one) / divisor : all / divisor;
    }

    public int two(int v, int w, int what) throws IllegalArgumentException {
        needWithin(v, 0, 99);
        needWithin(w, 0, 99);
        needWithin(what, 0, 2);
        int rests = 0;
        int first = NONE;
        int together = 0;
        for (int way = 0; way < 4; way++) {
            int one = way / 2;
            int other = way % 2;
            if (has(one, other, v, w) >= has(1 - one, other, v, w)
                    && has(other, one, v, w) >= has(1 - other, one, v, w)) {
                rests++;
                if (first == NONE) {
                    first = 10 * one + other;
                    together = has(one, other, v, w) + has(other, one, v, w);
                }
            }
        }
        return what == 0 ? rests : what == 1 ? first : together;
    }

    public int share(int man, int men, int n) throws NoSuchElementException, IllegalArgumentException {
        needOneOf(man, shore.coast.men);
        needWithin(men, 0, (1 << shore.coast.men) - 1);
        needWithin(n, 0, 9999);
        if ((men >> man & 1) == 0) {
            return 0;
        }
        return Math.min(days.landed[man], days.levelFor(men, n));
    }

    public int best(int what) throws IllegalArgumentException {
        needWithin(what, 0, 1);
        int first = days.mostLander();
        return first == NONE || what == 0 ? first : days.landed[first];
    }

    public int from(int side) throws IllegalArgumentException {
        needWithin(side, 0, SIDES - 1);
        return shore.coast.hatsFrom(side);
    }

    public int row(int man) throws NoSuchElementException {
        needOneOf(man, shore.coast.men);
        return shore.coast.longestRow(man);
    }

    public int season(int seed, int q, int hours, int what) throws IllegalArgumentException {
        needWithin(q, 0, 16);
        needWithin(hours, 1, 96);
        needWithin(what, 0, 3);
        guess.become(days);
        seasons.pass(shore, guess, seed, q, hours);
        return outcome(what);
    }

    public int span(int seed, int many, int q, int hours, int what) throws IllegalArgumentException {
        needWithin(many, 1, 20);
        needWithin(q, 0, 16);
        needWithin(hours, 1, 96);
        needWithin(what, 0, 2);
        int least = MOST_OF_ALL;
        int most = 0;
        int unharmed = 0;
        for (int i = 0; i < many; i++) {
            guess.become(days);
            seasons.pass(shore, guess, seed + i, q, hours);
            int landed = guess.fishLanded();
            least = Math.min(least, landed);
            most = Math.max(most, landed);
            unharmed += guess.living == days.living ? 1 : 0;
        }
        return what == 0 ? least : what == 1 ? most : unharmed;
    }

    public int image() {
        return past.keepImage(days) ? past.images : -1;
    }

    public int restore() {
        if (!past.dropImage(days)) {
            return -1;
        }
        refusedSteps = 0;
        return past.images;
    }

    public int status(int what) {
        return what == 0 ? missing : what == 1 ? wrong : NONE;
    }

    public int count(int what) {
        return what == 0 ? past.images : what == 1 ? tape.size : what == 2 ? past.works : NONE;
    }

    private void needOneOf(int number, int many) {
        if (number < 0 || number >= many) {
            missing++;
            throw new NoSuchElementException("no such hat, ground or man");
        }
    }

    private void needWithin(int value, int least, int most) {
        if (value < least || value > most) {
            wrong++;
            throw new IllegalArgumentException("a number that is not allowed there");
        }
    }

    private void needText(int n, int most) {
        needWithin(n, 0, Math.min(tape.size, most));
    }

    /** What has come out in the guess, by the numbering of ahead() and season(). */
    private int outcome(int what) {
        switch (what) {
            case 0:
                return guess.fishLanded();
            case 1:
                return guess.living;
            case 2:
                return guess.fishLeft();
            default:
                return guess.hatsWorn();
        }
    }

    /** What one who does mine (0 near, 1 far) has beside one who does other. */
    private static int has(int mine, int other, int v, int w) {
        if (mine == other) {
            return mine == 0 ? v : w;
        }
        return mine == 0 ? w : v / 2;
    }

    private static long greatestDivisor(long above, long below) {
        long a = below;
        long b = above;
        // Euclid's steps for numbers below 2^48 are far fewer than 100.
        for (int i = 0; i < 100 && b != 0; i++) {
            long rest = a % b;
            a = b;
            b = rest;
        }
        return a > 0 ? a : 1;
    }

    /** The TAPE, and the text at its beginning as it is read, token by token. */
    private static final class Tape {
        private static final int END = 0;
        private static final int NUMBER = 1;
        private static final int WORD = 2;
        private static final int SIGN = 3;
        private static final int TOO_MUCH = 100000;

        private final byte[] bytes = new byte[TAPE_BYTES];
        private int size;
        private int length;
        private int start;
        private int stop;
        private int kind;
        private int number;
        private int faultCode;
        private int faultPlace = NONE;

        void append(int value) {
            for (int shift = 24; shift >= 0 && size < TAPE_BYTES; shift -= 8) {
                bytes[size] = (byte) (value >>> shift);
                size++;
            }
        }

        /** Begins to read the first n bytes; for feed() the TAPE is empty from now on. */
        void open(int n) {
            length = Math.max(0, Math.min(n, size));
            size = 0;
            stop = 0;
            faultCode = 0;
            faultPlace = NONE;
            next();
        }

        void next() {
            start = stop;
            while (start < length && bytes[start] == ' ') {
                start++;
            }
            stop = start;
            number = 0;
            kind = start < length ? SIGN : END;
            while (stop < length && bytes[stop] >= '0' && bytes[stop] <= '9') {
                kind = NUMBER;
                // Digits without end would wrap: all that is too much is alike.
                number = number < TOO_MUCH ? number * 10 + bytes[stop] - '0' : TOO_MUCH;
                stop++;
            }
            while (kind != NUMBER && stop < length && bytes[stop] >= 'a' && bytes[stop] <= 'z') {
                kind = WORD;
                stop++;
            }
            stop += kind == SIGN ? 1 : 0;
        }

        boolean isFaulty() {
            return faultCode != 0;
        }

        boolean isAtEnd() {
            return kind == END;
        }

        boolean isNumber() {
            return kind == NUMBER;
        }

        boolean isSign(char sign) {
            return faultCode == 0 && kind == SIGN && start < length && bytes[start] == sign;
        }

        boolean isWord(String word) {
            if (kind != WORD || stop - start != word.length()) {
                return false;
            }
            for (int i = 0; i < word.length() && start + i < length; i++) {
                if (bytes[start + i] != word.charAt(i)) {
                    return false;
                }
            }
            return true;
        }

        /** The token read last is a FAULT, if there is none yet. */
        void fail(int code) {
            if (faultCode == 0) {
                faultCode = code;
                faultPlace = start;
            }
        }

        void takeSign(char sign) {
            if (isSign(sign)) {
                next();
            } else {
                fail(FAULT_PLACE);
            }
        }

        /** Behind a FAULT 0, and nothing is read: the callers look for FAULTS at their ends. */
        int takeNumber(int least, int most) {
            if (isFaulty()) {
                return 0;
            }
            if (kind != NUMBER) {
                fail(FAULT_PLACE);
                return 0;
            }
            if (number < least || number > most) {
                fail(FAULT_NUMBER);
                return 0;
            }
            int taken = number;
            next();
            return taken;
        }
    }

    /** What a COAST tells, and what follows from its heirs alone. */
    private static final class Coast {
        private static final int MOST_CLAUSES = 60;
        // Six MEN: behind six steps all are in rings, and each ring's length goes into 60.
        private static final int ALL_RINGS = 60;

        private final int[] hatForce = new int[MOST_HATS];
        private final int[] hatSide = new int[MOST_HATS];
        private final int[] groundFish = new int[MOST_GROUNDS];
        private final int[] groundSide = new int[MOST_GROUNDS];
        private final int[] boat = new int[MOST_MEN];
        private final int[] heir = new int[MOST_MEN];
        private int hats;
        private int grounds;
        private int men;

        boolean readText(Tape tape) {
            hats = 0;
            grounds = 0;
            men = 0;
            for (int i = 0; i <= MOST_CLAUSES && !tape.isAtEnd() && !tape.isFaulty(); i++) {
                readClause(tape, i >= MOST_CLAUSES);
                tape.takeSign(';');
            }
            return !tape.isFaulty();
        }

        private void readClause(Tape tape, boolean full) {
            if (tape.isWord("hat")) {
                readHat(tape, full);
            } else if (tape.isWord("ground")) {
                readGround(tape, full);
            } else if (tape.isWord("man")) {
                readMan(tape, full);
            } else if (tape.isWord("heir")) {
                readHeir(tape, full);
            } else {
                tape.fail(FAULT_PLACE);
            }
        }

        private void readHat(Tape tape, boolean full) {
            if (full || hats >= MOST_HATS) {
                tape.fail(FAULT_MANY);
                return;
            }
            tape.next();
            hatForce[hats] = tape.takeNumber(1, 12);
            hatSide[hats] = tape.takeNumber(0, SIDES - 1);
            hats++;
        }

        private void readGround(Tape tape, boolean full) {
            if (full || grounds >= MOST_GROUNDS) {
                tape.fail(FAULT_MANY);
                return;
            }
            tape.next();
            groundFish[grounds] = tape.takeNumber(0, 999);
            groundSide[grounds] = tape.takeNumber(0, SIDES - 1);
            grounds++;
        }

        private void readMan(Tape tape, boolean full) {
            if (full || men >= MOST_MEN) {
                tape.fail(FAULT_MANY);
                return;
            }
            tape.next();
            boat[men] = tape.takeNumber(1, 99);
            heir[men] = NONE;
            men++;
        }

        private void readHeir(Tape tape, boolean full) {
            if (full) {
                tape.fail(FAULT_MANY);
                return;
            }
            tape.next();
            int man = tape.takeNumber(0, men - 1);
            int next = tape.takeNumber(0, men - 1);
            if (!tape.isFaulty()) {
                heir[man] = next;
            }
        }

        int hatsFrom(int side) {
            int bits = 0;
            for (int hat = 0; hat < hats; hat++) {
                bits |= hatSide[hat] == side ? 1 << hat : 0;
            }
            return bits;
        }

        int angleOf(int hat, int ground) {
            int apart = hatSide[hat] - groundSide[ground] & SIDES - 1;
            return apart <= SIDES / 2 ? apart : SIDES - apart;
        }

        int heirAfter(int man, int n) {
            int steps = n < MOST_MEN ? n : MOST_MEN + (n - MOST_MEN) % ALL_RINGS;
            int now = man;
            for (int i = 0; i < steps && now != NONE; i++) {
                now = heir[now];
            }
            return now;
        }

        /** By how many steps of heirs one comes from a MAN to another; NONE: never. */
        int stepsBetween(int man, int other) {
            int now = man;
            for (int steps = 0; steps < MOST_MEN && now != NONE; steps++) {
                if (now == other) {
                    return steps;
                }
                now = heir[now];
            }
            return NONE;
        }

        int meetingOf(int man, int other) {
            int meeting = NONE;
            int fewest = MOST_OF_ALL;
            for (int there = 0; there < men; there++) {
                int one = stepsBetween(man, there);
                int two = stepsBetween(other, there);
                if (one != NONE && two != NONE && one + two < fewest) {
                    fewest = one + two;
                    meeting = there;
                }
            }
            return meeting;
        }

        int longestRow(int man) {
            int seen = 1 << man;
            int now = heir[man];
            int steps = 0;
            while (steps < MOST_MEN && now != NONE && (seen >> now & 1) == 0) {
                seen |= 1 << now;
                now = heir[now];
                steps++;
            }
            return steps;
        }
    }

    /** A LAW as a row of parts, each behind the parts that it is made of: the last one is the whole. */
    private static final class Law {
        private static final int CONSTANT = 0;
        private static final int FACT = 1;
        private static final int ADD = 2;
        private static final int SUBTRACT = 3;
        private static final int MULTIPLY = 4;
        private static final int DIVIDE = 5;
        private static final int LEAVE = 6;
        private static final int LEAST = 7;
        private static final int MOST = 8;

        private final int[] kind = new int[LAW_BYTES];
        private final int[] left = new int[LAW_BYTES];
        private final int[] right = new int[LAW_BYTES];
        private final int[] value = new int[LAW_BYTES];
        private int size;

        Law() {
            beStandard();
        }

        /** force * 3 - angle * 4. */
        void beStandard() {
            size = 0;
            int rise = join(MULTIPLY, join(FACT, FORCE, 0), join(CONSTANT, 3, 0));
            int fall = join(MULTIPLY, join(FACT, ANGLE, 0), join(CONSTANT, 4, 0));
            join(SUBTRACT, rise, fall);
        }

        /** A part more: its number. A text of 150 bytes never has so many that there is no room. */
        private int join(int newKind, int newLeft, int newRight) {
            if (size >= LAW_BYTES) {
                return 0;
            }
            kind[size] = newKind;
            left[size] = newLeft;
            right[size] = newRight;
            size++;
            return size - 1;
        }

        boolean readText(Tape tape) {
            size = 0;
            readSum(tape, 0);
            if (!tape.isAtEnd()) {
                tape.fail(FAULT_PLACE);
            }
            return !tape.isFaulty();
        }

        private int readSum(Tape tape, int open) {
            int sum = readProduct(tape, open);
            for (int i = 0; i < LAW_BYTES && (tape.isSign('+') || tape.isSign('-')); i++) {
                int sign = tape.isSign('+') ? ADD : SUBTRACT;
                tape.next();
                sum = join(sign, sum, readProduct(tape, open));
            }
            return sum;
        }

        private int readProduct(Tape tape, int open) {
            int product = readUnit(tape, open);
            int sign = productSign(tape);
            for (int i = 0; i < LAW_BYTES && sign != NONE; i++) {
                tape.next();
                product = join(sign, product, readUnit(tape, open));
                sign = productSign(tape);
            }
            return product;
        }

        private static int productSign(Tape tape) {
            return tape.isSign('*') ? MULTIPLY : tape.isSign('/') ? DIVIDE : tape.isSign('%') ? LEAVE : NONE;
        }

        private int readUnit(Tape tape, int open) {
            if (tape.isNumber()) {
                return join(CONSTANT, tape.takeNumber(0, 999), 0);
            }
            boolean least = tape.isWord("least");
            if (least || tape.isWord("most") || tape.isSign('(')) {
                if (open >= MOST_OPEN) {
                    tape.fail(FAULT_MANY);
                    return 0;
                }
                return tape.isSign('(') ? readInner(tape, open + 1) : readPair(tape, least ? LEAST : MOST, open + 1);
            }
            int fact = factOf(tape);
            if (fact == NONE) {
                tape.fail(FAULT_PLACE);
                return 0;
            }
            tape.next();
            return join(FACT, fact, 0);
        }

        private int readInner(Tape tape, int open) {
            tape.next();
            int inner = readSum(tape, open);
            tape.takeSign(')');
            return inner;
        }

        private int readPair(Tape tape, int choice, int open) {
            tape.next();
            tape.takeSign('[');
            if (tape.isFaulty()) {
                return 0;
            }
            int one = readSum(tape, open);
            tape.takeSign(',');
            if (tape.isFaulty()) {
                return 0;
            }
            int two = readSum(tape, open);
            tape.takeSign(']');
            return join(choice, one, two);
        }

        private static int factOf(Tape tape) {
            if (tape.isWord("force")) {
                return FORCE;
            }
            if (tape.isWord("angle")) {
                return ANGLE;
            }
            if (tape.isWord("hours")) {
                return HOURS;
            }
            if (tape.isWord("boat")) {
                return BOAT;
            }
            if (tape.isWord("hurt")) {
                return HURT;
            }
            if (tape.isWord("fish")) {
                return FISH;
            }
            if (tape.isWord("others")) {
                return OTHERS;
            }
            return tape.isWord("hour") ? HOUR : NONE;
        }

        int seaBy(int[] facts) {
            int rough = 0;
            for (int i = 0; i < size; i++) {
                int one = left[i];
                if (kind[i] == CONSTANT) {
                    rough = one;
                } else if (kind[i] == FACT) {
                    rough = facts[one];
                } else {
                    rough = joined(kind[i], value[one], value[right[i]]);
                }
                value[i] = rough;
            }
            return Math.max(0, Math.min(ROUGHEST, rough));
        }

        private static int joined(int sign, int one, int two) {
            switch (sign) {
                case ADD:
                    return one + two;
                case SUBTRACT:
                    return one - two;
                case MULTIPLY:
                    return one * two;
                case DIVIDE:
                    return two == 0 ? 0 : one / two;
                case LEAVE:
                    return two == 0 ? 0 : one % two;
                case LEAST:
                    return one < two ? one : two;
                default:
                    return one > two ? one : two;
            }
        }
    }

    /** The lines of a BOOK. */
    private static final class Book {
        private static final int MOST_LINES = 8;

        private final int[] hours = new int[MOST_LINES];
        private final int[] seas = new int[MOST_LINES];
        private int size;

        boolean readText(Tape tape) {
            size = 0;
            for (int i = 0; i <= MOST_LINES && !tape.isAtEnd() && !tape.isFaulty(); i++) {
                readEntry(tape);
            }
            return !tape.isFaulty();
        }

        private void readEntry(Tape tape) {
            if (tape.isNumber() && isTold(tape.number)) {
                tape.fail(FAULT_NUMBER);
            } else if (size >= MOST_LINES && tape.isNumber() && tape.number < DAY) {
                // At this place an H that is none such would be the lesser FAULT.
                tape.fail(FAULT_MANY);
            }
            int hour = tape.takeNumber(0, DAY - 1);
            int rough = tape.takeNumber(0, ROUGHEST);
            tape.takeSign(';');
            if (!tape.isFaulty() && size < MOST_LINES) {
                hours[size] = hour;
                seas[size] = rough;
                size++;
            }
        }

        boolean isTold(int hour) {
            for (int i = 0; i < size; i++) {
                if (hours[i] == hour) {
                    return true;
                }
            }
            return false;
        }

        /** How many hours have to be looked at for all lines. */
        int hoursNeeded() {
            int needed = 0;
            for (int i = 0; i < size; i++) {
                needed = Math.max(needed, hours[i] + 1);
            }
            return needed;
        }

        /** Whether all lines are right of the SEAS that stand in a row from a place on. */
        boolean isRight(int[] row, int place) {
            for (int i = 0; i < size; i++) {
                if (row[place + hours[i]] != seas[i]) {
                    return false;
                }
            }
            return true;
        }
    }

    /** All that WORK changes; a STEP answers whether it was done, and changes nothing if not. */
    private static final class Days {
        private static final int CELLS = 2 + 5 * MOST_MEN + MOST_HATS + MOST_GROUNDS;
        private static final int MOST_OIL = 9;

        private final int[] hurt = new int[MOST_MEN];
        private final int[] wears = new int[MOST_MEN];
        private final int[] at = new int[MOST_MEN];
        private final int[] hours = new int[MOST_MEN];
        private final int[] landed = new int[MOST_MEN];
        private final int[] oiled = new int[MOST_HATS];
        private final int[] left = new int[MOST_GROUNDS];
        private int hour;
        private int living;

        void begin(Coast coast) {
            Arrays.fill(hurt, 0);
            Arrays.fill(wears, NONE);
            Arrays.fill(at, NONE);
            Arrays.fill(hours, 0);
            Arrays.fill(landed, 0);
            Arrays.fill(oiled, 0);
            Arrays.fill(left, 0);
            System.arraycopy(coast.groundFish, 0, left, 0, coast.grounds);
            hour = 0;
            living = (1 << coast.men) - 1;
        }

        void become(Days other) {
            System.arraycopy(other.hurt, 0, hurt, 0, MOST_MEN);
            System.arraycopy(other.wears, 0, wears, 0, MOST_MEN);
            System.arraycopy(other.at, 0, at, 0, MOST_MEN);
            System.arraycopy(other.hours, 0, hours, 0, MOST_MEN);
            System.arraycopy(other.landed, 0, landed, 0, MOST_MEN);
            System.arraycopy(other.oiled, 0, oiled, 0, MOST_HATS);
            System.arraycopy(other.left, 0, left, 0, MOST_GROUNDS);
            hour = other.hour;
            living = other.living;
        }

        void writeTo(int[] cells, int place) {
            cells[place] = hour;
            cells[place + 1] = living;
            int next = place + 2;
            System.arraycopy(hurt, 0, cells, next, MOST_MEN);
            System.arraycopy(wears, 0, cells, next + MOST_MEN, MOST_MEN);
            System.arraycopy(at, 0, cells, next + 2 * MOST_MEN, MOST_MEN);
            System.arraycopy(hours, 0, cells, next + 3 * MOST_MEN, MOST_MEN);
            System.arraycopy(landed, 0, cells, next + 4 * MOST_MEN, MOST_MEN);
            System.arraycopy(oiled, 0, cells, next + 5 * MOST_MEN, MOST_HATS);
            System.arraycopy(left, 0, cells, next + 5 * MOST_MEN + MOST_HATS, MOST_GROUNDS);
        }

        void readFrom(int[] cells, int place) {
            hour = cells[place];
            living = cells[place + 1];
            int next = place + 2;
            System.arraycopy(cells, next, hurt, 0, MOST_MEN);
            System.arraycopy(cells, next + MOST_MEN, wears, 0, MOST_MEN);
            System.arraycopy(cells, next + 2 * MOST_MEN, at, 0, MOST_MEN);
            System.arraycopy(cells, next + 3 * MOST_MEN, hours, 0, MOST_MEN);
            System.arraycopy(cells, next + 4 * MOST_MEN, landed, 0, MOST_MEN);
            System.arraycopy(cells, next + 5 * MOST_MEN, oiled, 0, MOST_HATS);
            System.arraycopy(cells, next + 5 * MOST_MEN + MOST_HATS, left, 0, MOST_GROUNDS);
        }

        boolean lives(int man) {
            return (living >> man & 1) == 1;
        }

        int wearerOf(int hat) {
            for (int man = 0; man < MOST_MEN; man++) {
                if (wears[man] == hat) {
                    return man;
                }
            }
            return NONE;
        }

        int menAt(int ground) {
            int bits = 0;
            for (int man = 0; man < MOST_MEN; man++) {
                bits |= at[man] == ground ? 1 << man : 0;
            }
            return bits;
        }

        int menAtSea() {
            int bits = 0;
            for (int man = 0; man < MOST_MEN; man++) {
                bits |= at[man] != NONE ? 1 << man : 0;
            }
            return bits;
        }

        int hatsWorn() {
            int bits = 0;
            for (int man = 0; man < MOST_MEN; man++) {
                bits |= wears[man] != NONE ? 1 << wears[man] : 0;
            }
            return bits;
        }

        int fishLeft() {
            int sum = 0;
            for (int ground = 0; ground < MOST_GROUNDS; ground++) {
                sum += left[ground];
            }
            return sum;
        }

        int fishLanded() {
            int sum = 0;
            for (int man = 0; man < MOST_MEN; man++) {
                sum += landed[man];
            }
            return sum;
        }

        int mostLander() {
            int first = NONE;
            int most = 0;
            for (int man = 0; man < MOST_MEN; man++) {
                if (landed[man] > most) {
                    most = landed[man];
                    first = man;
                }
            }
            return first;
        }

        private int givenBy(int bound, int men) {
            int sum = 0;
            for (int man = 0; man < MOST_MEN; man++) {
                sum += (men >> man & 1) == 1 ? Math.min(landed[man], bound) : 0;
            }
            return sum;
        }

        /** The bound by which n fish are levelled: halved, as what is given grows with it. */
        int levelFor(int men, int n) {
            int low = 0;
            int high = MOST_GROUNDS * 1000;
            for (int i = 0; i < 32 && low < high; i++) {
                int middle = (low + high + 1) / 2;
                if (givenBy(middle, men) <= n) {
                    low = middle;
                } else {
                    high = middle - 1;
                }
            }
            return low;
        }

        boolean wear(int man, int hat) {
            if (!lives(man) || wearerOf(hat) != NONE) {
                return false;
            }
            wears[man] = hat;
            return true;
        }

        boolean doff(int man) {
            if (wears[man] == NONE) {
                return false;
            }
            wears[man] = NONE;
            return true;
        }

        boolean sail(int man, int ground) {
            if (!lives(man) || at[man] == ground || wears[man] == NONE) {
                return false;
            }
            at[man] = ground;
            hours[man] = 0;
            return true;
        }

        boolean goHome(int man) {
            if (at[man] == NONE) {
                return false;
            }
            at[man] = NONE;
            hours[man] = 0;
            return true;
        }

        boolean oil(int hat) {
            if (oiled[hat] >= MOST_OIL) {
                return false;
            }
            oiled[hat]++;
            return true;
        }

        boolean die(int man, int heir) {
            if (!lives(man)) {
                return false;
            }
            int bequest = wears[man];
            living &= ~(1 << man);
            wears[man] = NONE;
            goHome(man);
            if (heir != NONE && lives(heir) && wears[heir] == NONE) {
                wears[heir] = bequest;
            }
            return true;
        }

        void take(int man, int rough) {
            int ground = at[man];
            if (ground == NONE) {
                return;
            }
            int fish = Math.min(left[ground], fishBy(rough));
            left[ground] -= fish;
            landed[man] += fish;
            hours[man]++;
        }

        static int fishBy(int rough) {
            return 9 - rough / 10;
        }
    }

    /** A COAST with its LAW: how rough it is, and how HOURS go by. */
    private static final class Shore {
        private Coast coast = new Coast();
        private Law rule = new Law();
        private final int[] facts = new int[FACTS];
        private final int[] seas = new int[MOST_MEN];

        int seaOf(Days days, int man) {
            int ground = days.at[man];
            int worn = days.wears[man];
            if (ground == NONE || worn == NONE) {
                return 0;
            }
            standAlone(days, man, worn, ground);
            facts[HOURS] = days.hours[man];
            facts[OTHERS] = Integer.bitCount(days.menAt(ground)) - 1;
            return rule.seaBy(facts);
        }

        /** From now on the MAN is ALONE there with the HAT. */
        void standAlone(Days days, int man, int worn, int ground) {
            facts[FORCE] = coast.hatForce[worn] + days.oiled[worn];
            facts[ANGLE] = coast.angleOf(worn, ground);
            facts[HOURS] = 0;
            facts[BOAT] = coast.boat[man];
            facts[HURT] = days.hurt[man];
            facts[FISH] = days.left[ground];
            facts[OTHERS] = 0;
            facts[HOUR] = days.hour;
        }

        /** The next SEA of the MAN who was stood ALONE last. */
        int nextSea() {
            int rough = rule.seaBy(facts);
            facts[HOURS]++;
            facts[HOUR]++;
            facts[HURT] += rough;
            return rough;
        }

        void passHour(Days days) {
            for (int man = 0; man < coast.men; man++) {
                seas[man] = seaOf(days, man);
            }
            for (int man = 0; man < coast.men; man++) {
                days.hurt[man] += seas[man];
                if (days.hurt[man] > coast.boat[man]) {
                    days.die(man, coast.heir[man]);
                }
            }
            for (int man = 0; man < coast.men; man++) {
                days.take(man, seas[man]);
            }
            days.hour++;
        }
    }

    /** WORK: its STEPS in a row, an again ahead of what it repeats. */
    private static final class Work {
        private static final int WEAR = 0;
        private static final int DOFF = 1;
        private static final int SAIL = 2;
        private static final int HOME = 3;
        private static final int OIL = 4;
        private static final int DIE = 5;
        private static final int PASS = 6;
        private static final int AGAIN = 7;
        private static final int MOST_AGAIN = 30;
        private static final int MOST_BEGUN = 200;
        // The shortest STEPS have five bytes with their ";".
        private static final int MOST_STEPS = WORK_BYTES / 5 + 1;

        private final int[] kind = new int[MOST_STEPS];
        private final int[] one = new int[MOST_STEPS];
        private final int[] two = new int[MOST_STEPS];
        private final int[] behind = new int[MOST_STEPS];
        private int size;
        private int begun;
        private int done;
        private int refused;

        boolean readText(Tape tape, Coast coast) {
            size = 0;
            readSteps(tape, coast, 0);
            return !tape.isFaulty();
        }

        private void readSteps(Tape tape, Coast coast, int open) {
            for (int i = 0; i < WORK_BYTES && !tape.isFaulty() && !tape.isAtEnd(); i++) {
                if (open > 0 && tape.isSign(']')) {
                    return;
                }
                readStep(tape, coast, open);
                tape.takeSign(';');
            }
        }

        private void readStep(Tape tape, Coast coast, int open) {
            int step = stepOf(tape);
            if (step == NONE || size >= MOST_STEPS) {
                tape.fail(FAULT_PLACE);
                return;
            }
            if (step == AGAIN && open >= MOST_OPEN) {
                tape.fail(FAULT_MANY);
                return;
            }
            int here = size;
            size++;
            kind[here] = step;
            tape.next();
            if (step == AGAIN) {
                one[here] = tape.takeNumber(0, MOST_AGAIN);
                tape.takeSign('[');
                readSteps(tape, coast, open + 1);
                tape.takeSign(']');
            } else {
                readOperands(tape, coast, here);
            }
            behind[here] = size;
        }

        private void readOperands(Tape tape, Coast coast, int here) {
            int step = kind[here];
            if (step == OIL) {
                one[here] = tape.takeNumber(0, coast.hats - 1);
            } else if (step != PASS) {
                one[here] = tape.takeNumber(0, coast.men - 1);
            }
            if (step == WEAR) {
                two[here] = tape.takeNumber(0, coast.hats - 1);
            } else if (step == SAIL) {
                two[here] = tape.takeNumber(0, coast.grounds - 1);
            }
        }

        private static int stepOf(Tape tape) {
            if (tape.isWord("wear")) {
                return WEAR;
            }
            if (tape.isWord("doff")) {
                return DOFF;
            }
            if (tape.isWord("sail")) {
                return SAIL;
            }
            if (tape.isWord("home")) {
                return HOME;
            }
            if (tape.isWord("oil")) {
                return OIL;
            }
            if (tape.isWord("die")) {
                return DIE;
            }
            if (tape.isWord("hour")) {
                return PASS;
            }
            return tape.isWord("again") ? AGAIN : NONE;
        }

        void begin(Days days, Shore shore) {
            begun = 0;
            done = 0;
            refused = 0;
            doSteps(days, shore, 0, size, 0);
        }

        private void doSteps(Days days, Shore shore, int first, int last, int open) {
            int here = first;
            while (here < last && begun < MOST_BEGUN) {
                begun++;
                if (kind[here] == AGAIN) {
                    for (int i = 0; i < one[here] && begun < MOST_BEGUN && open < MOST_OPEN; i++) {
                        doSteps(days, shore, here + 1, behind[here], open + 1);
                    }
                } else if (doStep(days, shore, here)) {
                    done++;
                } else {
                    refused++;
                }
                here = behind[here];
            }
        }

        private boolean doStep(Days days, Shore shore, int here) {
            switch (kind[here]) {
                case WEAR:
                    return days.wear(one[here], two[here]);
                case DOFF:
                    return days.doff(one[here]);
                case SAIL:
                    return days.sail(one[here], two[here]);
                case HOME:
                    return days.goHome(one[here]);
                case OIL:
                    return days.oil(one[here]);
                case DIE:
                    return days.die(one[here], shore.coast.heir[one[here]]);
                default:
                    if (days.hour >= LAST_HOUR) {
                        return false;
                    }
                    shore.passHour(days);
                    return true;
            }
        }
    }

    /** Days as they were ahead of each WORK, and IMAGES: days with the WORKS behind them. */
    private static final class History {
        private static final int WORK_CELLS = MOST_WORKS * Days.CELLS;
        private static final int IMAGE_CELLS = WORK_CELLS + Days.CELLS;

        private final int[] workCells = new int[WORK_CELLS];
        private final int[] imageCells = new int[MOST_IMAGES * IMAGE_CELLS];
        private final int[] imageWorks = new int[MOST_IMAGES];
        private int works;
        private int images;

        void forget() {
            works = 0;
            images = 0;
        }

        void keepWork(Days days) {
            if (works < MOST_WORKS) {
                days.writeTo(workCells, works * Days.CELLS);
                works++;
            }
        }

        boolean dropWork(Days days) {
            if (works <= 0) {
                return false;
            }
            works--;
            days.readFrom(workCells, works * Days.CELLS);
            return true;
        }

        boolean keepImage(Days days) {
            if (images >= MOST_IMAGES) {
                return false;
            }
            int place = images * IMAGE_CELLS;
            System.arraycopy(workCells, 0, imageCells, place, works * Days.CELLS);
            days.writeTo(imageCells, place + WORK_CELLS);
            imageWorks[images] = works;
            images++;
            return true;
        }

        boolean dropImage(Days days) {
            if (images <= 0) {
                return false;
            }
            images--;
            works = imageWorks[images];
            int place = images * IMAGE_CELLS;
            System.arraycopy(imageCells, place, workCells, 0, works * Days.CELLS);
            days.readFrom(imageCells, place + WORK_CELLS);
            return true;
        }
    }

    /** Questions of MEN who are ALONE: what comes out stays in the fields. */
    private static final class Alone {
        private static final int MOST_PAIRS = MOST_HATS * MOST_GROUNDS;

        private final int[] seas = new int[MOST_PAIRS * DAY];
        private final int[] tally = new int[ROUGHEST + 1];
        private final int[] prices = new int[MOST_MEN * MOST_HATS];
        private final int[] cheapest = new int[1 << MOST_HATS];
        private final int[] gifts = new int[MOST_MEN];
        private final int[] takes = new int[MOST_MEN];
        private int chosen;
        private int chosenHurt;
        private int chosenWorst;
        private int pairs;
        private int firstPair;

        void chooseHat(Shore shore, Days days, int man, int ground, int n) {
            chosen = NONE;
            chosenHurt = NONE;
            for (int worn = 0; worn < shore.coast.hats; worn++) {
                int wearer = days.wearerOf(worn);
                if (wearer != NONE && wearer != man) {
                    continue;
                }
                shore.standAlone(days, man, worn, ground);
                int sum = 0;
                for (int i = 0; i < n; i++) {
                    sum += shore.nextSea();
                }
                if (chosen == NONE || sum < chosenHurt) {
                    chosen = worn;
                    chosenHurt = sum;
                }
            }
        }

        /** HATTED: the SEAS together, or NONE; the HATS are in gifts. */
        int giveHats(Shore shore, Days days, int ground) {
            Arrays.fill(gifts, NONE);
            int hats = shore.coast.hats;
            int many = Integer.bitCount(days.living);
            if (many > hats) {
                return NONE;
            }
            priceHats(shore, days, ground);
            findCheapest(hats, many);
            int used = 0;
            int turn = 0;
            for (int man = 0; man < shore.coast.men; man++) {
                if (days.lives(man)) {
                    gifts[man] = firstCheapest(turn, used, hats);
                    used |= gifts[man] == NONE ? 0 : 1 << gifts[man];
                    turn++;
                }
            }
            return cheapest[0];
        }

        /** The first SEAS of the living MEN, who are counted from 0 on, by HAT. */
        private void priceHats(Shore shore, Days days, int ground) {
            int turn = 0;
            for (int man = 0; man < shore.coast.men; man++) {
                if (!days.lives(man)) {
                    continue;
                }
                for (int worn = 0; worn < shore.coast.hats; worn++) {
                    shore.standAlone(days, man, worn, ground);
                    prices[turn * MOST_HATS + worn] = shore.nextSea();
                }
                turn++;
            }
        }

        /** Of each set of used HATS: the least SEAS of those whose turn comes behind as many as it has. */
        private void findCheapest(int hats, int many) {
            for (int used = (1 << hats) - 1; used >= 0; used--) {
                int turn = Integer.bitCount(used);
                cheapest[used] = 0;
                if (turn < many) {
                    int worn = firstCheapest(turn, used, hats);
                    cheapest[used] = worn == NONE ? 0 : priceWith(turn, used, worn);
                }
            }
        }

        private int priceWith(int turn, int used, int worn) {
            return prices[turn * MOST_HATS + worn] + cheapest[used | 1 << worn];
        }

        private int firstCheapest(int turn, int used, int hats) {
            int first = NONE;
            int least = MOST_OF_ALL;
            for (int worn = 0; worn < hats; worn++) {
                if ((used >> worn & 1) == 0 && priceWith(turn, used, worn) < least) {
                    least = priceWith(turn, used, worn);
                    first = worn;
                }
            }
            return first;
        }

        /** FITS; the SEAS of the first hours of each pair that fits stand in its row. */
        void findPairs(Shore shore, Days days, Book lines, int man, int hours) {
            pairs = 0;
            firstPair = NONE;
            for (int worn = 0; worn < shore.coast.hats; worn++) {
                for (int ground = 0; ground < shore.coast.grounds; ground++) {
                    shore.standAlone(days, man, worn, ground);
                    for (int i = 0; i < hours; i++) {
                        seas[pairs * DAY + i] = shore.nextSea();
                    }
                    if (lines.isRight(seas, pairs * DAY)) {
                        firstPair = pairs == 0 ? 10 * worn + ground : firstPair;
                        pairs++;
                    }
                }
            }
        }

        void chooseHour(Book lines) {
            chosen = NONE;
            chosenWorst = NONE;
            for (int hour = 0; hour < DAY; hour++) {
                if (lines.isTold(hour)) {
                    continue;
                }
                int worst = mostAlike(hour);
                if (chosen == NONE || worst < chosenWorst) {
                    chosen = hour;
                    chosenWorst = worst;
                }
            }
        }

        /** How many of the pairs that fit have the same SEA in an hour, at the most. */
        private int mostAlike(int hour) {
            Arrays.fill(tally, 0);
            int most = 0;
            for (int pair = 0; pair < pairs; pair++) {
                int rough = seas[pair * DAY + hour];
                tally[rough]++;
                most = Math.max(most, tally[rough]);
            }
            return most;
        }

        int fewestMen(Shore shore, Days days, int ground, int n) {
            int able = 0;
            for (int man = 0; man < shore.coast.men; man++) {
                takes[man] = 0;
                if (days.lives(man) && days.wears[man] != NONE) {
                    shore.standAlone(days, man, days.wears[man], ground);
                    takes[man] = Days.fishBy(shore.nextSea());
                    able |= 1 << man;
                }
            }
            int fewest = NONE;
            for (int bits = 0; bits <= able; bits++) {
                if ((bits & ~able) == 0 && takenBy(bits) >= n
                        && (fewest == NONE || Integer.bitCount(bits) < Integer.bitCount(fewest))) {
                    fewest = bits;
                }
            }
            return fewest;
        }

        private int takenBy(int bits) {
            int sum = 0;
            for (int man = 0; man < MOST_MEN; man++) {
                sum += (bits >> man & 1) == 1 ? takes[man] : 0;
            }
            return sum;
        }
    }

    /** SEASONS: what is DRAWN by a SEED. */
    private static final class Season {
        private int seed;

        private int draw(int by) {
            seed = seed * 1103515245 + 12345;
            return by > 0 ? (seed >>> 16 & 32767) % by : 0;
        }

        void pass(Shore shore, Days days, int firstSeed, int q, int hours) {
            seed = firstSeed;
            Coast coast = shore.coast;
            boolean drawn = coast.men > 0 && coast.hats > 0 && coast.grounds > 0;
            for (int i = 0; i < hours; i++) {
                if (drawn) {
                    drawMan(coast, days, q);
                }
                shore.passHour(days);
            }
        }

        private void drawMan(Coast coast, Days days, int q) {
            int man = draw(coast.men);
            int worn = draw(coast.hats);
            int ground = draw(coast.grounds);
            days.wear(man, worn);
            days.sail(man, ground);
            if (draw(16) < q) {
                days.goHome(man);
            }
        }
    }
}
