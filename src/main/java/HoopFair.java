import java.util.Arrays;
import java.util.NoSuchElementException;

/**
 * A stall at a fair where hoops are thrown over blocks. The words in capitals of its document (THE FAIR, THE LAW,
 * OVER, KNOCKED, ..) are kept in the names here. All rows are made once, with the object, and used again.
 */
public final class HoopFair {
    public static final int NONE = -1;

    private static final int ASLANT = -2;
    private static final int NO_ROW = -99;
    private static final int MOST_TEXTS = 12;
    private static final int CLOTH_WIDE = 60;
    private static final int CLOTH_DEEP = 40;
    private static final int HEIGHTS = 6;
    private static final int PACES = 12;
    private static final int TRIAL_HEIGHT = 2;

    private final Tape tape;
    private final FairReader fairReader;
    private final LawReader lawReader;
    private final Gauge gauge;
    private final Stall stall;
    private final Stall kept;
    private final Stall draft;
    private final Past past;
    private final Aim aim;
    private final Odds odds;
    private final Plans plans;
    private boolean isKept;
    private int fault;

    public HoopFair() {
        Law none = new Law(NONE, new int[0], 0);
        tape = new Tape();
        fairReader = new FairReader(tape);
        lawReader = new LawReader(tape);
        gauge = new Gauge();
        stall = new Stall(none);
        kept = new Stall(none);
        draft = new Stall(none);
        past = new Past(none);
        aim = new Aim(none);
        odds = new Odds();
        plans = new Plans(aim, odds);
        isKept = false;
        fault = NONE;
    }

    // ---- texts

    public int feed(int a, int b, int c, int d, int e) {
        if (!tape.hasRoom(20)) {
            return NONE;
        }
        tape.add(a);
        tape.add(b);
        tape.add(c);
        tape.add(d);
        tape.add(e);
        return tape.size();
    }

    public boolean end(int n) {
        return tape.cut(n);
    }

    public int fair() throws IllegalArgumentException, UnsupportedOperationException {
        draft.copyFrom(stall);
        boolean right = fairReader.reads(draft);
        useUp(right);
        if (!right) {
            throw new IllegalArgumentException("the text of the fair is wrong");
        }
        if (stall.texts >= MOST_TEXTS) {
            throw new UnsupportedOperationException("there are 12 texts");
        }
        stall.copyFrom(draft);
        stall.texts++;
        past.forget();
        return stall.texts;
    }

    public int law() throws IllegalArgumentException {
        boolean right = lawReader.reads();
        useUp(right);
        if (!right) {
            throw new IllegalArgumentException("the text of the law is wrong");
        }
        stall.law = lawReader.made();
        past.forget();
        return stall.law.lines();
    }

    public int fault() {
        return fault;
    }

    private void useUp(boolean right) {
        fault = right ? NONE : tape.begin();
        tape.cut(0);
    }

    // ---- what there is

    public int block(int block, int what) throws IndexOutOfBoundsException, NoSuchElementException {
        needBlock(block);
        if (what < 0 || what > 5) {
            throw new NoSuchElementException("a block has no such thing");
        }
        return what == 5 ? stall.inFrontOf(block) : stall.blocks.at(block, what);
    }

    public int hoop(int hoop, int what) throws IndexOutOfBoundsException, NoSuchElementException {
        needHoop(hoop);
        if (what < 0 || what > 3) {
            throw new NoSuchElementException("a hoop has no such thing");
        }
        return what == 3 ? stall.widest(hoop) : stall.hoops.at(hoop, what);
    }

    public int person(int person, int what) throws IndexOutOfBoundsException, NoSuchElementException {
        needPerson(person);
        if (what < 0 || what > 2) {
            throw new NoSuchElementException("a person has no such thing");
        }
        return stall.people.at(person, what);
    }

    public int aims(int person, int hoop, int from, int height, int pace, int what) throws IndexOutOfBoundsException, IllegalArgumentException {
        needPerson(person);
        needHoop(hoop);
        needThrow(from, height, pace);
        if (what < 0 || what > 3) {
            throw new IllegalArgumentException("a throw has no such thing");
        }
        take(person, hoop, from, height, pace);
        switch (what) {
            case 0:
                return aim.x();
            case 1:
                return aim.y();
            case 2:
                return aim.spread();
            default:
                return aim.strict();
        }
    }

    public int lies(int k, int what) throws NoSuchElementException {
        if (what < 0 || what > 3) {
            throw new NoSuchElementException("a hoop that lies has no such thing");
        }
        return stall.lying.has(k) ? stall.lying.at(k, what) : NONE;
    }

    public int log(int ago, int what) throws NoSuchElementException {
        if (what < 0 || what > 5) {
            throw new NoSuchElementException("a row of the log has no such thing");
        }
        // Ahead of the difference: an ago near the least int would go round.
        boolean isThere = ago >= 0 && ago < stall.thrown.size();
        return isThere ? stall.thrown.at(stall.thrown.size() - 1 - ago, what) : NO_ROW;
    }

    public int count(int what) {
        switch (what) {
            case 0:
                return stall.blocks.size();
            case 1:
                return stall.hoops.size();
            case 2:
                return stall.people.size();
            case 3:
                return stall.texts;
            case 4:
                return stall.law.lines();
            case 5:
                return stall.taken;
            case 6:
                return stall.paid;
            case 7:
                return stall.throwsOfAll();
            default:
                return countRest(what);
        }
    }

    private int countRest(int what) {
        switch (what) {
            case 8:
                return stall.lying.size();
            case 9:
                return stall.price;
            case 10:
                return stall.bounce;
            case 11:
                return stall.knock;
            case 12:
                return stall.knockedCount;
            case 13:
                return stall.thrown.size();
            case 14:
                return past.size();
            default:
                return NONE;
        }
    }

    // ---- acts

    public int toss(int person, int hoop, int from, int height, int pace) throws IndexOutOfBoundsException, IllegalArgumentException {
        needPerson(person);
        needHoop(hoop);
        needThrow(from, height, pace);
        past.remember(stall);
        take(person, hoop, from, height, pace);
        return stall.hurl(aim);
    }

    public int clear() {
        past.remember(stall);
        int taken = stall.lying.size();
        stall.lying.empty();
        return taken;
    }

    public boolean wets(int hoop, boolean wet) throws IndexOutOfBoundsException {
        needHoop(hoop);
        past.remember(stall);
        int now = wet ? 1 : 0;
        boolean changed = stall.hoops.at(hoop, Stall.WET) != now;
        stall.hoops.put(hoop, Stall.WET, now);
        return changed;
    }

    public int skill(int person, int n) throws IndexOutOfBoundsException, IllegalArgumentException {
        needPerson(person);
        needBetween(n, 0, 99);
        past.remember(stall);
        int was = stall.people.at(person, Stall.SKILL);
        stall.people.put(person, Stall.SKILL, n);
        return was;
    }

    public int move(int block, int x, int y) throws IndexOutOfBoundsException, IllegalArgumentException, IllegalStateException {
        needBlock(block);
        needOnCloth(x, y);
        if (stall.wouldOverlap(block, x, y)) {
            throw new IllegalStateException("the block would overlap another one");
        }
        past.remember(stall);
        int along = Math.abs(x - stall.blocks.at(block, Stall.X));
        int away = Math.abs(y - stall.blocks.at(block, Stall.Y));
        stall.blocks.put(block, Stall.X, x);
        stall.blocks.put(block, Stall.Y, y);
        return Math.max(along, away);
    }

    // ---- how a hoop goes over

    public boolean over(int hoop, int block, int dx, int dy) throws IndexOutOfBoundsException, IllegalArgumentException {
        needHoop(hoop);
        needBlock(block);
        needBetween(dx, -60, 60);
        needBetween(dy, -60, 60);
        return Stall.isOver(stall.along(hoop, 0), stall.deep(hoop, 0), stall.blocks.at(block, Stall.SIDE), dx, dy);
    }

    public int spots(int hoop, int block) throws IndexOutOfBoundsException {
        needHoop(hoop);
        needBlock(block);
        return stall.spotsOf(hoop, block);
    }

    public int narrowest(int block, int oval) throws IndexOutOfBoundsException, IllegalArgumentException {
        needBlock(block);
        needBetween(oval, 0, 9);
        return stall.leastAcross(block, oval);
    }

    public int comes(int hoop, int x, int y, int strict) throws IndexOutOfBoundsException, IllegalArgumentException {
        needHoop(hoop);
        needBetween(x, -99, 99);
        needBetween(y, -99, 99);
        needBetween(strict, 0, 99);
        return stall.fall(hoop, x, y, strict);
    }

    // ---- odds and plans

    public int ways(int person, int hoop, int from, int height, int pace, int block) throws IndexOutOfBoundsException, IllegalArgumentException {
        needPerson(person);
        needHoop(hoop);
        if (block != NONE) {
            needBlock(block);
        }
        needThrow(from, height, pace);
        take(person, hoop, from, height, pace);
        odds.tally(stall, aim);
        return block == NONE ? odds.waysOfAny() : odds.waysOf(block);
    }

    public int worth(int person, int hoop, int from, int height, int pace) throws IndexOutOfBoundsException, IllegalArgumentException {
        needPerson(person);
        needHoop(hoop);
        needThrow(from, height, pace);
        take(person, hoop, from, height, pace);
        odds.tally(stall, aim);
        return odds.worthBy(stall);
    }

    public int how(int person, int hoop, int from, int block, int what) throws IndexOutOfBoundsException, IllegalArgumentException, NoSuchElementException {
        needPerson(person);
        needHoop(hoop);
        needBlock(block);
        needFrom(from);
        if (what < 0 || what > 2) {
            throw new NoSuchElementException("a way to throw has no such thing");
        }
        sweep(person, hoop, from);
        return odds.bestOf(block, what);
    }

    public int where(int person, int hoop, int block) throws IndexOutOfBoundsException {
        needPerson(person);
        needHoop(hoop);
        needBlock(block);
        odds.forget();
        return plans.bestPlace(stall, person, hoop, block);
    }

    public int reached(int person, int hoop, int from) throws IndexOutOfBoundsException, IllegalArgumentException {
        needPerson(person);
        needHoop(hoop);
        needFrom(from);
        sweep(person, hoop, from);
        return odds.reach();
    }

    public int places(int person, int hoop, int k) throws IndexOutOfBoundsException {
        needPerson(person);
        needHoop(hoop);
        odds.forget();
        return plans.fewestPlaces(stall, person, hoop, k);
    }

    public int earns(int person, int hoop, int from) throws IndexOutOfBoundsException, IllegalArgumentException {
        needPerson(person);
        needHoop(hoop);
        needFrom(from);
        sweep(person, hoop, from);
        return stall.price * 100 / 3 - odds.bestWorth();
    }

    public int large(int person, int hoop, int from, int block) throws IndexOutOfBoundsException, IllegalArgumentException {
        needPerson(person);
        needHoop(hoop);
        needBlock(block);
        needFrom(from);
        draft.copyFrom(stall);
        aim.stand(draft, person, hoop, from);
        return plans.leastSide(draft, block);
    }

    public int arranged(int person, int hoop, int from, int block) throws IndexOutOfBoundsException, IllegalArgumentException {
        needPerson(person);
        needHoop(hoop);
        if (block != NONE) {
            needBlock(block);
        }
        needFrom(from);
        sweep(person, hoop, from);
        return plans.arrange(stall, block);
    }

    public int till(int person, int hoop, int from, int height, int pace, int block) throws IndexOutOfBoundsException, IllegalArgumentException {
        needPerson(person);
        needHoop(hoop);
        needBlock(block);
        needThrow(from, height, pace);
        take(person, hoop, from, height, pace);
        return plans.throwsTillSure(stall, block);
    }

    public int stop(int person, int hoop, int from, int height, int pace, boolean much) throws IndexOutOfBoundsException, IllegalArgumentException {
        needPerson(person);
        needHoop(hoop);
        needThrow(from, height, pace);
        take(person, hoop, from, height, pace);
        return plans.bestStop(stall, much);
    }

    public int game(int person, int from, int hoops, int what) throws IndexOutOfBoundsException, IllegalArgumentException, IllegalStateException, NoSuchElementException {
        needPerson(person);
        needFrom(from);
        if (stall.blocks.size() == 0 || (hoops & stall.hoops.asBits()) == 0) {
            throw new IllegalStateException("a game is of a hoop and a block at least");
        }
        if (what < 0 || what > 2) {
            throw new NoSuchElementException("a game has no such thing");
        }
        odds.forget();
        plans.weigh(stall, person, from, hoops);
        switch (what) {
            case 0:
                return plans.surelyWon();
            case 1:
                return plans.surelyLost();
            default:
                return plans.rests();
        }
    }

    public int gauge(boolean next) throws IllegalArgumentException {
        boolean right = gauge.reads(tape);
        tape.cut(0);
        if (!right) {
            throw new IllegalArgumentException("the tape tells no gauge");
        }
        return next ? gauge.nextSide() : gauge.kinds();
    }

    // ---- where blocks stand

    public int hidden() {
        return stall.hiddenOnes();
    }

    public int near(int x, int y, int n) throws IllegalArgumentException {
        needOnCloth(x, y);
        needBetween(n, 0, 60);
        return stall.withinOf(x, y, n);
    }

    public int gap(int block, int other) throws IndexOutOfBoundsException, IllegalArgumentException {
        needBlock(block);
        needBlock(other);
        if (block == other) {
            throw new IllegalArgumentException("both blocks are one");
        }
        return stall.gapAt(block, other, stall.blocks.at(block, Stall.X), stall.blocks.at(block, Stall.Y));
    }

    // ---- trials and the log

    public int trial(int person, int hoop, int from, int pace, int n) throws IndexOutOfBoundsException, IllegalArgumentException {
        needTrial(person, hoop, from, pace, n);
        return tried(person, hoop, from, pace, n, stall.seed);
    }

    public int span(int person, int hoop, int from, int pace, int n, boolean most) throws IndexOutOfBoundsException, IllegalArgumentException {
        needTrial(person, hoop, from, pace, n);
        int best = tried(person, hoop, from, pace, n, 1);
        for (int seed = 2; seed <= 6; seed++) {
            int counted = tried(person, hoop, from, pace, n, seed);
            best = most ? Math.max(best, counted) : Math.min(best, counted);
        }
        return best;
    }

    private int tried(int person, int hoop, int from, int pace, int n, int seed) {
        draft.copyFrom(stall);
        draft.seed = seed;
        int counted = 0;
        for (int i = 0; i < n; i++) {
            aim.stand(draft, person, hoop, from);
            aim.raise(TRIAL_HEIGHT, pace);
            int came = draft.hurl(aim);
            if (came >= 0 || draft.latestKnocked() >= 0) {
                counted++;
            }
        }
        return counted;
    }

    public int robbed(int person) throws IndexOutOfBoundsException {
        if (person != NONE) {
            needPerson(person);
        }
        return stall.robbedOf(person);
    }

    public int led(int block, boolean latest) throws IndexOutOfBoundsException {
        needBlock(block);
        return latest ? stall.latestLed(block) : stall.ledRows(block);
    }

    // ---- the seed, and what is kept

    public int seed(int n) {
        int was = stall.seed;
        stall.seed = n;
        return was;
    }

    public boolean undo() {
        return past.takeBack(stall);
    }

    public void image() {
        kept.copyFrom(stall);
        isKept = true;
    }

    public boolean back() {
        if (!isKept) {
            return false;
        }
        stall.copyFrom(kept);
        past.forget();
        return true;
    }

    // ---- what a call needs

    private void take(int person, int hoop, int from, int height, int pace) {
        odds.forget();
        aim.stand(stall, person, hoop, from);
        aim.raise(height, pace);
    }

    private void sweep(int person, int hoop, int from) {
        odds.forget();
        aim.stand(stall, person, hoop, from);
        odds.sweep(stall, aim);
    }

    private void needBlock(int block) {
        if (!stall.blocks.has(block)) {
            throw new IndexOutOfBoundsException("there is no such block");
        }
    }

    private void needHoop(int hoop) {
        if (!stall.hoops.has(hoop)) {
            throw new IndexOutOfBoundsException("there is no such hoop");
        }
    }

    private void needPerson(int person) {
        if (!stall.people.has(person)) {
            throw new IndexOutOfBoundsException("there is no such person");
        }
    }

    private void needBetween(int n, int least, int most) {
        if (n < least || n > most) {
            throw new IllegalArgumentException("a number is none");
        }
    }

    private void needFrom(int from) {
        needBetween(from, 0, CLOTH_WIDE - 1);
    }

    private void needOnCloth(int x, int y) {
        needBetween(x, 0, CLOTH_WIDE - 1);
        needBetween(y, 0, CLOTH_DEEP - 1);
    }

    private void needThrow(int from, int height, int pace) {
        needFrom(from);
        needBetween(height, 0, HEIGHTS - 1);
        needBetween(pace, 0, PACES - 1);
    }

    private void needTrial(int person, int hoop, int from, int pace, int n) {
        needPerson(person);
        needHoop(hoop);
        needThrow(from, TRIAL_HEIGHT, pace);
        needBetween(n, 0, 40);
    }

    /** Rows of one width in one array; what is asked beyond them is 0, and what is put beyond them is lost. */
    private static final class Rows {
        private final int[] cells;
        private final int width;
        private int size;

        Rows(int[] cells, int width) {
            this.cells = cells;
            this.width = width;
            this.size = 0;
        }

        int size() {
            return size;
        }

        boolean has(int row) {
            return row >= 0 && row < size;
        }

        boolean isFull() {
            return (size + 1) * width > cells.length;
        }

        int asBits() {
            return (1 << size) - 1;
        }

        int at(int row, int column) {
            int cell = row * width + column;
            boolean isThere = row >= 0 && row < size && column >= 0 && column < width;
            return isThere && cell >= 0 && cell < cells.length ? cells[cell] : 0;
        }

        void put(int row, int column, int value) {
            int cell = row * width + column;
            boolean isThere = row >= 0 && row < size && column >= 0 && column < width;
            if (isThere && cell >= 0 && cell < cells.length) {
                cells[cell] = value;
            }
        }

        void putLast(int column, int value) {
            put(size - 1, column, value);
        }

        /** A row of zeros comes behind the others, and its number is told; NONE if there is no room. */
        int open() {
            if (isFull()) {
                return NONE;
            }
            int from = size * width;
            for (int cell = from; cell < from + width && cell < cells.length; cell++) {
                cells[cell] = 0;
            }
            size++;
            return size - 1;
        }

        void remove(int row) {
            if (!has(row)) {
                return;
            }
            int from = row * width;
            int most = Math.min(size * width, cells.length);
            for (int cell = from; cell + width < most; cell++) {
                cells[cell] = cells[cell + width];
            }
            size--;
        }

        void empty() {
            size = 0;
        }

        void copyFrom(Rows other) {
            int used = Math.min(other.size * other.width, Math.min(cells.length, other.cells.length));
            if (used > 0) {
                System.arraycopy(other.cells, 0, cells, 0, used);
            }
            size = other.size;
        }
    }

    /** THE TAPE, and the things that its text is made of, taken one by one: words, numbers, signs. */
    private static final class Tape {
        private static final int WORD = 1;
        private static final int NUMBER = 2;
        private static final int SIGN = 3;

        private final int[] bytes;
        private int size;
        private final int[] kinds;
        private final int[] begins;
        /** Of a word how long it is, of a number how much (NONE, if it has too many digits), of a sign its byte. */
        private final int[] values;
        private int things;
        private int next;

        Tape() {
            bytes = new int[400];
            kinds = new int[400];
            begins = new int[400];
            values = new int[400];
        }

        int size() {
            return size;
        }

        boolean hasRoom(int more) {
            return size + more <= bytes.length;
        }

        void add(int four) {
            for (int shift = 24; shift >= 0 && size >= 0 && size < bytes.length; shift -= 8) {
                bytes[size] = (four >>> shift) & 255;
                size++;
            }
        }

        boolean cut(int n) {
            if (n < 0 || n > size) {
                return false;
            }
            size = n;
            return true;
        }

        int at(int place) {
            return place >= 0 && place < size && place < bytes.length ? bytes[place] : NONE;
        }

        /** All things are told apart at once, so that what takes them is plain. */
        void start() {
            things = 0;
            next = 0;
            for (int place = 0; place < size; place++) {
                if (isLetter(at(place))) {
                    growWord(place);
                } else if (isDigit(at(place))) {
                    growNumber(place);
                } else if (at(place) != ' ') {
                    put(SIGN, place, at(place));
                }
            }
        }

        private void growWord(int place) {
            if (isLetter(at(place - 1))) {
                setLatest(latest(values) + 1);
            } else {
                put(WORD, place, 1);
            }
        }

        private void growNumber(int place) {
            int digit = at(place) - '0';
            if (!isDigit(at(place - 1))) {
                put(NUMBER, place, digit);
            } else {
                // Whatever the number is: a 4th digit is wrong.
                setLatest(place - latest(begins) < 3 ? latest(values) * 10 + digit : NONE);
            }
        }

        private int latest(int[] row) {
            return things > 0 && things <= row.length ? row[things - 1] : 0;
        }

        private void setLatest(int value) {
            if (things > 0 && things <= values.length) {
                values[things - 1] = value;
            }
        }

        private void put(int kind, int begin, int value) {
            if (things >= 0 && things < kinds.length && things < begins.length && things < values.length) {
                kinds[things] = kind;
                begins[things] = begin;
                values[things] = value;
                things++;
            }
        }

        private static boolean isLetter(int sign) {
            return sign >= 'a' && sign <= 'z';
        }

        private static boolean isDigit(int sign) {
            return sign >= '0' && sign <= '9';
        }

        boolean isAtEnd() {
            return next >= things;
        }

        /** Where the thing begins that comes next; the text's length at its end. */
        int begin() {
            return next >= 0 && next < things && next < begins.length ? begins[next] : size;
        }

        private boolean isNext(int kind) {
            return next >= 0 && next < things && next < kinds.length && kinds[next] == kind;
        }

        private int value() {
            return next >= 0 && next < things && next < values.length ? values[next] : NONE;
        }

        boolean takes(String word) {
            boolean isThere = next >= 0 && next < things && next < kinds.length && next < begins.length && next < values.length;
            if (!isThere || kinds[next] != WORD || values[next] != word.length()) {
                return false;
            }
            for (int i = 0; i < word.length(); i++) {
                int place = begins[next] + i;
                if (place < 0 || place >= bytes.length || bytes[place] != word.charAt(i)) {
                    return false;
                }
            }
            next++;
            return true;
        }

        boolean takesSign(char sign) {
            if (!isNext(SIGN) || value() != sign) {
                return false;
            }
            next++;
            return true;
        }

        /** The number that comes next, if it is one from least to most; NONE, and it stays, if not. */
        int takeNumber(int least, int most) {
            int number = value();
            if (!isNext(NUMBER) || number < least || number > most) {
                return NONE;
            }
            next++;
            return number;
        }

        /** The latest thing taken is put back: it may not stand there. */
        void giveBack() {
            next = Math.max(0, next - 1);
        }
    }

    /** Reads a text of THE FAIR into a stall. */
    private static final class FairReader {
        private static final int MOST_LINES = 14;

        private final Tape tape;

        FairReader(Tape tape) {
            this.tape = tape;
        }

        boolean reads(Stall into) {
            tape.start();
            if (tape.isAtEnd()) {
                return true;
            }
            for (int lines = 0; lines < MOST_LINES; lines++) {
                if (!readsLine(into)) {
                    return false;
                }
                if (tape.isAtEnd()) {
                    return true;
                }
                if (!tape.takesSign(';')) {
                    return false;
                }
            }
            return false;
        }

        private boolean readsLine(Stall into) {
            if (tape.takes("block")) {
                return opens(into.blocks) && readsBlock(into.blocks);
            }
            if (tape.takes("hoop")) {
                return opens(into.hoops) && readsHoop(into.hoops);
            }
            if (tape.takes("person")) {
                return opens(into.people) && puts(into.people, Stall.SKILL, 0, 99);
            }
            return readsSetting(into);
        }

        private boolean opens(Rows rows) {
            boolean hasRoom = rows.open() >= 0;
            if (!hasRoom) {
                tape.giveBack();
            }
            return hasRoom;
        }

        private boolean readsBlock(Rows blocks) {
            boolean right = puts(blocks, Stall.X, 0, CLOTH_WIDE - 1)
                    && puts(blocks, Stall.Y, 0, CLOTH_DEEP - 1)
                    && tape.takes("side") && puts(blocks, Stall.SIDE, 1, 9)
                    && tape.takes("prize") && puts(blocks, Stall.PRIZE, 0, 999);
            if (right && tape.takes("velvet")) {
                blocks.putLast(Stall.VELVET, 1);
            }
            return right;
        }

        private boolean readsHoop(Rows hoops) {
            if (!puts(hoops, Stall.ACROSS, 2, 15) || !tape.takes("oval")) {
                return false;
            }
            int across = hoops.at(hoops.size() - 1, Stall.ACROSS);
            boolean right = puts(hoops, Stall.OVAL, 0, Math.min(9, across - 1));
            if (right && tape.takes("wet")) {
                hoops.putLast(Stall.WET, 1);
            }
            return right;
        }

        private boolean puts(Rows rows, int column, int least, int most) {
            int number = tape.takeNumber(least, most);
            if (number < 0) {
                return false;
            }
            rows.putLast(column, number);
            return true;
        }

        private boolean readsSetting(Stall into) {
            int number = NONE;
            if (tape.takes("price")) {
                number = tape.takeNumber(0, 99);
                into.price = number;
            } else if (tape.takes("bounce")) {
                number = tape.takeNumber(0, 3);
                into.bounce = number;
            } else if (tape.takes("knock")) {
                number = tape.takeNumber(0, 9);
                into.knock = number;
            } else if (tape.takes("counts")) {
                number = tape.takeNumber(0, 1);
                into.knockedCount = number;
            }
            return number >= 0;
        }
    }

    /**
     * THE LAW as steps of a stack of numbers: each step is an op, and a number below STEP with it. It is never changed
     * once it is made, so that all that is remembered may share it.
     */
    private static final class Law {
        private static final int STEP = 1024;
        private static final int NUMBER = 0;
        private static final int FACT = 1;
        private static final int PLUS = 2;
        private static final int LESS = 3;
        private static final int MORE = 4;
        private static final int NOT = 5;
        private static final int AND = 6;
        private static final int OR = 7;
        private static final int LINE = 8;
        /** What a LINE step carries: which sum it adds to, times this, and the N that it adds. */
        private static final int SUM = 64;

        private final int lines;
        private final int[] steps;
        private final int facts;

        /** facts: those that its text speaks of, as bits. */
        Law(int lines, int[] steps, int facts) {
            this.lines = lines;
            this.steps = steps;
            this.facts = facts;
        }

        int lines() {
            return lines;
        }

        int length() {
            return steps.length;
        }

        int at(int place) {
            return place >= 0 && place < steps.length ? steps[place] : 0;
        }

        boolean minds(int fact) {
            return (facts >> fact & 1) == 1;
        }
    }

    /** Reads a text of THE LAW and makes a Law of it. */
    private static final class LawReader {
        private static final int MOST_LINES = 12;
        private static final int DEEPEST = 6;

        private final Tape tape;
        private final int[] steps;
        private int length;
        private int lines;
        private int facts;

        LawReader(Tape tape) {
            this.tape = tape;
            steps = new int[400];
        }

        Law made() {
            int used = Math.max(0, Math.min(length, steps.length));
            return new Law(lines, Arrays.copyOf(steps, used), facts);
        }

        boolean reads() {
            length = 0;
            lines = 0;
            facts = 0;
            tape.start();
            if (tape.isAtEnd()) {
                return true;
            }
            while (lines < MOST_LINES) {
                if (!readsLine()) {
                    return false;
                }
                lines++;
                if (tape.isAtEnd()) {
                    return true;
                }
                if (!tape.takesSign(';')) {
                    return false;
                }
            }
            return false;
        }

        private boolean readsLine() {
            int sum = takeSum();
            if (sum < 0) {
                return false;
            }
            int number = tape.takeNumber(0, sum < Aim.SPREADS ? 60 : 9);
            if (number < 0) {
                return false;
            }
            if (!tape.takes("if")) {
                emit(Law.NUMBER, 1);
            } else if (!readsAny(0)) {
                return false;
            }
            emit(Law.LINE, sum * Law.SUM + number);
            return true;
        }

        private int takeSum() {
            if (tape.takes("far")) {
                return Aim.FAR;
            }
            if (tape.takes("short")) {
                return Aim.SHORT;
            }
            if (tape.takes("right")) {
                return Aim.RIGHT;
            }
            if (tape.takes("left")) {
                return Aim.LEFT;
            }
            if (tape.takes("spread")) {
                return Aim.SPREADS;
            }
            return tape.takes("strict") ? Aim.STRICTS : NONE;
        }

        private void emit(int op, int number) {
            if (length >= 0 && length < steps.length) {
                steps[length] = op * Law.STEP + number;
                length++;
            }
        }

        /** C of the document; depth: how many ( and not it stands within. */
        private boolean readsAny(int depth) {
            for (int alls = 0; alls < steps.length; alls++) {
                for (int atoms = 0; atoms == 0 || atoms < steps.length && tape.takes("and"); atoms++) {
                    if (!readsAtom(depth)) {
                        return false;
                    }
                    emitJoint(Law.AND, atoms);
                }
                emitJoint(Law.OR, alls);
                if (!tape.takes("or")) {
                    return true;
                }
            }
            return false;
        }

        private boolean readsAtom(int depth) {
            if (depth < DEEPEST && tape.takes("not")) {
                boolean right = readsAtom(depth + 1);
                emit(Law.NOT, 0);
                return right;
            }
            if (depth < DEEPEST && tape.takesSign('(')) {
                return readsAny(depth + 1) && tape.takesSign(')');
            }
            if (tape.takes("wet")) {
                emitFact(Aim.WET);
                return true;
            }
            if (!readsSum()) {
                return false;
            }
            int op = tape.takesSign('<') ? Law.LESS : tape.takesSign('>') ? Law.MORE : NONE;
            if (op < 0 || !readsSum()) {
                return false;
            }
            emit(op, 0);
            return true;
        }

        private boolean readsSum() {
            for (int parts = 0; parts < steps.length; parts++) {
                int number = tape.takeNumber(0, 999);
                int fact = number < 0 ? takeFact() : NONE;
                if (number < 0 && fact < 0) {
                    return false;
                }
                if (fact < 0) {
                    emit(Law.NUMBER, number);
                } else {
                    emitFact(fact);
                }
                emitJoint(Law.PLUS, parts);
                if (!tape.takesSign('+')) {
                    return true;
                }
            }
            return false;
        }

        private void emitFact(int fact) {
            facts |= 1 << fact;
            emit(Law.FACT, fact);
        }

        /** The first one of a row stands alone; each later one is joined with those ahead of it. */
        private void emitJoint(int op, int ahead) {
            if (ahead > 0) {
                emit(op, 0);
            }
        }

        private int takeFact() {
            if (tape.takes("who")) {
                return Aim.WHO;
            }
            if (tape.takes("hoop")) {
                return Aim.HOOP;
            }
            if (tape.takes("from")) {
                return Aim.FROM;
            }
            if (tape.takes("height")) {
                return Aim.HEIGHT;
            }
            if (tape.takes("pace")) {
                return Aim.PACE;
            }
            if (tape.takes("skill")) {
                return Aim.SKILL;
            }
            return tape.takes("throws") ? Aim.THROWS : NONE;
        }
    }

    /** A throw as it is AIMED: who throws what from where and how, and what THE LAW makes of it. */
    private static final class Aim {
        private static final int WHO = 0;
        private static final int HOOP = 1;
        private static final int FROM = 2;
        private static final int HEIGHT = 3;
        private static final int PACE = 4;
        private static final int SKILL = 5;
        private static final int THROWS = 6;
        private static final int WET = 7;

        private static final int FAR = 0;
        private static final int SHORT = 1;
        private static final int RIGHT = 2;
        private static final int LEFT = 3;
        private static final int SPREADS = 4;
        private static final int STRICTS = 5;

        private final int[] facts;
        private final int[] sums;
        private final int[] stack;
        private int top;
        private Law law;
        /** The same throw comes up for all paces and places: THE LAW is reckoned anew only where it may say another thing. */
        private boolean isStale;

        Aim(Law law) {
            facts = new int[8];
            sums = new int[6];
            // 6 deep, each with an or, an and and a sum begun, is below this.
            stack = new int[40];
            top = 0;
            this.law = law;
            isStale = true;
        }

        void stand(Stall stall, int person, int hoop, int from) {
            isStale = isStale || law != stall.law;
            law = stall.law;
            setFact(WHO, person);
            setFact(HOOP, hoop);
            setFact(FROM, from);
            setFact(SKILL, stall.people.at(person, Stall.SKILL));
            setFact(THROWS, stall.people.at(person, Stall.THROWS));
            setFact(WET, stall.hoops.at(hoop, Stall.WET));
        }

        void raise(int height, int pace) {
            setFact(HEIGHT, height);
            setFact(PACE, pace);
            reckon();
        }

        /** The next throw alike, by one who has thrown once more. */
        void grow() {
            setFact(THROWS, fact(THROWS) + 1);
            setFact(SKILL, Math.min(99, fact(SKILL) + 1));
            reckon();
        }

        boolean mindsHeight() {
            return law.minds(HEIGHT);
        }

        int fact(int which) {
            return which >= 0 && which < facts.length ? facts[which] : 0;
        }

        private void setFact(int which, int value) {
            if (which >= 0 && which < facts.length && facts[which] != value) {
                facts[which] = value;
                isStale = isStale || law.minds(which);
            }
        }

        private int sum(int which) {
            return which >= 0 && which < sums.length ? sums[which] : 0;
        }

        int x() {
            return fact(FROM) + sum(RIGHT) - sum(LEFT);
        }

        int y() {
            return 3 * fact(PACE) + sum(FAR) - sum(SHORT);
        }

        int spread() {
            return Math.max(0, Math.min(4, sum(SPREADS)) - fact(SKILL) / 25);
        }

        int strict() {
            return sum(STRICTS);
        }

        private void reckon() {
            if (!isStale) {
                return;
            }
            isStale = false;
            Arrays.fill(sums, 0);
            if (law.lines() < 0) {
                add(SPREADS, 2);
            }
            top = 0;
            for (int place = 0; place < law.length(); place++) {
                int step = law.at(place);
                reckonStep(step / Law.STEP, step % Law.STEP);
            }
        }

        private void reckonStep(int op, int number) {
            if (op == Law.NUMBER) {
                push(number);
            } else if (op == Law.FACT) {
                push(fact(number));
            } else if (op == Law.NOT) {
                push(1 - pop());
            } else if (op == Law.LINE) {
                if (pop() > 0) {
                    add(number / Law.SUM, number % Law.SUM);
                }
            } else {
                int right = pop();
                push(joined(op, pop(), right));
            }
        }

        private static int joined(int op, int left, int right) {
            switch (op) {
                case Law.PLUS:
                    return left + right;
                case Law.LESS:
                    return left < right ? 1 : 0;
                case Law.MORE:
                    return left > right ? 1 : 0;
                case Law.AND:
                    return left & right;
                default:
                    return left | right;
            }
        }

        private void add(int which, int n) {
            if (which >= 0 && which < sums.length) {
                sums[which] += n;
            }
        }

        private void push(int value) {
            if (top >= 0 && top < stack.length) {
                stack[top] = value;
                top++;
            }
        }

        private int pop() {
            if (top <= 0 || top > stack.length) {
                return 0;
            }
            top--;
            return stack[top];
        }
    }

    /** All that THE IMAGE keeps and that an act can change: the cloth, the people, what lies, the log, the seed. */
    private static final class Stall {
        private static final int X = 0;
        private static final int Y = 1;
        private static final int SIDE = 2;
        private static final int PRIZE = 3;
        private static final int VELVET = 4;

        private static final int ACROSS = 0;
        private static final int OVAL = 1;
        private static final int WET = 2;

        private static final int SKILL = 0;
        private static final int THROWS = 1;
        private static final int COUNTED = 2;

        private static final int LIES_HOOP = 0;
        private static final int LIES_X = 1;
        private static final int LIES_Y = 2;
        private static final int LIES_ASLANT = 3;

        private static final int LOG_WHO = 0;
        private static final int LOG_HOOP = 1;
        private static final int LOG_X = 2;
        private static final int LOG_Y = 3;
        private static final int LOG_CAME = 4;
        private static final int LOG_KNOCKED = 5;

        private final Rows blocks;
        private final Rows hoops;
        private final Rows people;
        private final Rows lying;
        private final Rows thrown;
        private final int[] heeded;
        private int heededSize;
        private int along;
        private int deep;
        private int restY;
        private Law law;
        private int texts;
        private int price;
        private int bounce;
        private int knock;
        private int knockedCount;
        private int taken;
        private int paid;
        private int seed;

        Stall(Law none) {
            blocks = new Rows(new int[50], 5);
            hoops = new Rows(new int[24], 3);
            people = new Rows(new int[18], 3);
            lying = new Rows(new int[120], 4);
            thrown = new Rows(new int[360], 6);
            heeded = new int[10];
            law = none;
            price = 6;
            bounce = 1;
            seed = 1;
        }

        void copyFrom(Stall other) {
            blocks.copyFrom(other.blocks);
            hoops.copyFrom(other.hoops);
            people.copyFrom(other.people);
            lying.copyFrom(other.lying);
            thrown.copyFrom(other.thrown);
            law = other.law;
            texts = other.texts;
            price = other.price;
            bounce = other.bounce;
            knock = other.knock;
            knockedCount = other.knockedCount;
            taken = other.taken;
            paid = other.paid;
            seed = other.seed;
        }

        int throwsOfAll() {
            int all = 0;
            for (int person = 0; person < people.size(); person++) {
                all += people.at(person, THROWS);
            }
            return all;
        }

        // -- how a hoop lies over a block

        int along(int hoop, int strict) {
            return Math.max(1, hoops.at(hoop, ACROSS) - hoops.at(hoop, OVAL) - strict);
        }

        int deep(int hoop, int strict) {
            return Math.max(1, hoops.at(hoop, ACROSS) - strict);
        }

        /** Of the four corners the one farthest away decides: if it is within the oval, so are the others. */
        static boolean isOver(int along, int deep, int side, int dx, int dy) {
            int u = 2 * Math.abs(dx) + side;
            int v = 2 * Math.abs(dy) + side;
            // Beyond these it is not over either way, and the squares stay small.
            if (u > along || v > deep) {
                return false;
            }
            return u * u * deep * deep + v * v * along * along <= along * along * deep * deep;
        }

        static boolean isTouching(int along, int deep, int side, int dx, int dy) {
            return 2 * Math.abs(dx) < along + side && 2 * Math.abs(dy) < deep + side;
        }

        int widest(int hoop) {
            int widest = 0;
            for (int side = 1; side <= 9; side++) {
                if (isOver(along(hoop, 0), deep(hoop, 0), side, 0, 0)) {
                    widest = side;
                }
            }
            return widest;
        }

        int leastAcross(int block, int oval) {
            for (int across = Math.max(2, oval + 1); across <= 15; across++) {
                if (isOver(across - oval, across, blocks.at(block, SIDE), 0, 0)) {
                    return across;
                }
            }
            return NONE;
        }

        int spotsOf(int hoop, int block) {
            int spots = 0;
            // A hoop of 15 over a side of 1 has its middle at most 7 away.
            for (int dx = -8; dx <= 8; dx++) {
                for (int dy = -8; dy <= 8; dy++) {
                    if (isOver(along(hoop, 0), deep(hoop, 0), blocks.at(block, SIDE), dx, dy)) {
                        spots++;
                    }
                }
            }
            return spots;
        }

        // -- what comes of a hoop

        /**
         * Keeps in mind which blocks a hoop can touch that lands up to spread away from a place, so that the others need
         * not be looked at for each place: whether it can lie over any.
         */
        boolean heed(int hoop, int strict, int x, int y, int spread) {
            along = along(hoop, strict);
            deep = deep(hoop, strict);
            heededSize = 0;
            boolean canCount = false;
            for (int block = 0; block < blocks.size(); block++) {
                int side = blocks.at(block, SIDE);
                int dx = Math.max(0, Math.abs(x - blocks.at(block, X)) - spread);
                int low = y - spread - blocks.at(block, Y);
                int high = y + spread + bounce - blocks.at(block, Y);
                int dy = low > 0 ? low : high < 0 ? -high : 0;
                if (isTouching(along, deep, side, dx, dy) && heededSize >= 0 && heededSize < heeded.length) {
                    heeded[heededSize] = block;
                    heededSize++;
                    canCount = canCount || 2 * dx + side <= along && 2 * dy + side <= deep;
                }
            }
            return canCount;
        }

        private int heededAt(int i) {
            return i >= 0 && i < heededSize && i < heeded.length ? heeded[i] : NONE;
        }

        /** WHAT COMES of a hoop at a place. */
        int fall(int hoop, int x, int y, int strict) {
            heed(hoop, strict, x, y, 0);
            int block = countsFor(x, y);
            return block >= 0 ? block : isTouchingAny(x, restY, false) ? ASLANT : NONE;
        }

        /** The block that the hoop heeded counts for at a place heeded, or NONE; restY: where it came to. */
        int countsFor(int x, int y) {
            restY = y;
            int block = firstOver(x, y);
            if (block < 0 && isTouchingAny(x, y, true)) {
                restY = y + bounce;
                block = firstOver(x, restY);
            }
            return block;
        }

        private int firstOver(int x, int y) {
            for (int i = 0; i < heededSize; i++) {
                int block = heededAt(i);
                if (isOver(along, deep, blocks.at(block, SIDE), x - blocks.at(block, X), y - blocks.at(block, Y))) {
                    return block;
                }
            }
            return NONE;
        }

        private boolean isTouchingAny(int x, int y, boolean hard) {
            for (int i = 0; i < heededSize; i++) {
                int block = heededAt(i);
                boolean passes = hard && blocks.at(block, VELVET) == 1;
                if (!passes && isTouching(along, deep, blocks.at(block, SIDE), x - blocks.at(block, X), y - blocks.at(block, Y))) {
                    return true;
                }
            }
            return false;
        }

        // -- a throw

        int hurl(Aim aim) {
            int person = aim.fact(Aim.WHO);
            int hoop = aim.fact(Aim.HOOP);
            if (people.at(person, THROWS) % 3 == 0) {
                taken += price;
            }
            int x = aim.x() - aim.spread() + draw(2 * aim.spread() + 1);
            int y = aim.y() - aim.spread() + draw(2 * aim.spread() + 1);
            int came = fall(hoop, x, y, aim.strict());
            int knocked = NONE;
            if (came >= 0) {
                paid += blocks.at(came, PRIZE);
                people.put(person, COUNTED, people.at(person, COUNTED) + 1);
            } else {
                lay(hoop, x, restY, came);
                knocked = knockOn(aim.strict());
            }
            writeLog(aim, x, y, came, knocked);
            people.put(person, THROWS, people.at(person, THROWS) + 1);
            people.put(person, SKILL, Math.min(99, people.at(person, SKILL) + 1));
            return came;
        }

        private int draw(int many) {
            seed = 1103515245 * seed + 12345;
            return many > 0 ? ((seed >>> 16) & 0x7fff) % many : 0;
        }

        private void lay(int hoop, int x, int y, int came) {
            if (lying.isFull()) {
                lying.remove(0);
            }
            int row = lying.open();
            lying.put(row, LIES_HOOP, hoop);
            lying.put(row, LIES_X, x);
            lying.put(row, LIES_Y, y);
            lying.put(row, LIES_ASLANT, came == ASLANT ? 1 : 0);
        }

        /** The latest hoop that lies knocks the oldest aslant one near it: the block that is paid for, or NONE. */
        private int knockOn(int strict) {
            int latest = lying.size() - 1;
            if (knock <= 0) {
                return NONE;
            }
            for (int row = 0; row < latest; row++) {
                int dx = lying.at(row, LIES_X) - lying.at(latest, LIES_X);
                int dy = lying.at(row, LIES_Y) - lying.at(latest, LIES_Y);
                if (lying.at(row, LIES_ASLANT) == 1 && Math.abs(dx) <= knock && Math.abs(dy) <= knock) {
                    return push(row, Integer.signum(dx), Integer.signum(dy), strict);
                }
            }
            return NONE;
        }

        private int push(int row, int dx, int dy, int strict) {
            int x = lying.at(row, LIES_X) + dx;
            int y = lying.at(row, LIES_Y) + dy;
            heed(lying.at(row, LIES_HOOP), strict, x, y, 0);
            int block = firstOver(x, y);
            if (block < 0) {
                lying.put(row, LIES_X, x);
                lying.put(row, LIES_Y, y);
                lying.put(row, LIES_ASLANT, isTouchingAny(x, y, false) ? 1 : 0);
                return NONE;
            }
            lying.remove(row);
            if (knockedCount != 1) {
                return NONE;
            }
            paid += blocks.at(block, PRIZE);
            return block;
        }

        // -- the log

        private void writeLog(Aim aim, int x, int y, int came, int knocked) {
            if (thrown.isFull()) {
                thrown.remove(0);
            }
            int row = thrown.open();
            thrown.put(row, LOG_WHO, aim.fact(Aim.WHO));
            thrown.put(row, LOG_HOOP, aim.fact(Aim.HOOP));
            thrown.put(row, LOG_X, x);
            thrown.put(row, LOG_Y, y);
            thrown.put(row, LOG_CAME, came);
            thrown.put(row, LOG_KNOCKED, knocked);
        }

        int latestKnocked() {
            return thrown.size() > 0 ? thrown.at(thrown.size() - 1, LOG_KNOCKED) : NONE;
        }

        int robbedOf(int person) {
            int robbed = 0;
            for (int row = 0; row < thrown.size(); row++) {
                boolean asked = person == NONE || person == thrown.at(row, LOG_WHO);
                if (asked && thrown.at(row, LOG_CAME) < 0
                        && fall(thrown.at(row, LOG_HOOP), thrown.at(row, LOG_X), thrown.at(row, LOG_Y), 0) >= 0) {
                    robbed++;
                }
            }
            return robbed;
        }

        private boolean isLed(int row, int block) {
            return thrown.at(row, LOG_CAME) == block || thrown.at(row, LOG_KNOCKED) == block;
        }

        int ledRows(int block) {
            int rows = 0;
            for (int row = 0; row < thrown.size(); row++) {
                if (isLed(row, block)) {
                    rows++;
                }
            }
            return rows;
        }

        int latestLed(int block) {
            for (int ago = 0; ago < thrown.size(); ago++) {
                if (isLed(thrown.size() - 1 - ago, block)) {
                    return ago;
                }
            }
            return NONE;
        }

        // -- how blocks stand to one another

        int inFrontOf(int block) {
            int bits = 0;
            for (int other = 0; other < blocks.size(); other++) {
                int dx = Math.abs(blocks.at(other, X) - blocks.at(block, X));
                boolean covers = 2 * dx < blocks.at(other, SIDE) + blocks.at(block, SIDE);
                if (covers && blocks.at(other, Y) < blocks.at(block, Y)) {
                    bits |= 1 << other;
                }
            }
            return bits;
        }

        int hiddenOnes() {
            int bits = 0;
            for (int block = 0; block < blocks.size(); block++) {
                if (inFrontOf(block) != 0) {
                    bits |= 1 << block;
                }
            }
            return bits;
        }

        int withinOf(int x, int y, int n) {
            int bits = 0;
            for (int block = 0; block < blocks.size(); block++) {
                if (Math.abs(blocks.at(block, X) - x) <= n && Math.abs(blocks.at(block, Y) - y) <= n) {
                    bits |= 1 << block;
                }
            }
            return bits;
        }

        /** GAP of a block and another, if the block stood at x, y. */
        int gapAt(int block, int other, int x, int y) {
            int sides = blocks.at(block, SIDE) + blocks.at(other, SIDE);
            int dx = Math.abs(x - blocks.at(other, X));
            int dy = Math.abs(y - blocks.at(other, Y));
            return 2 * Math.max(dx, dy) - sides;
        }

        boolean wouldOverlap(int block, int x, int y) {
            for (int other = 0; other < blocks.size(); other++) {
                if (other != block && gapAt(block, other, x, y) < 0) {
                    return true;
                }
            }
            return false;
        }
    }

    /**
     * What one throw is likely to do, and of all heights and paces the best for each block. The same places come up for
     * throw after throw, so that what counts there is kept, as long as the stall, the hoop and the strict stay the same.
     */
    private static final class Odds {
        private static final int WIDE = 72;
        private static final int DEEP = 48;
        private static final int RIM = 6;
        /** What a place holds: the mark of its time, times this, and the block, with NONE as 0. */
        private static final int MARK = 16;

        private final int[] counts;
        private int mark;
        private int hoop;
        private int strict;
        private final int[] ways;
        private final int[] best;
        private final int[] bestHeight;
        private final int[] bestPace;
        private int all;
        private int bestWorth;
        private int reach;

        Odds() {
            counts = new int[WIDE * DEEP];
            ways = new int[10];
            best = new int[10];
            bestHeight = new int[10];
            bestPace = new int[10];
            all = 1;
            mark = 1;
        }

        /** The stall may be another one from now on. */
        void forget() {
            mark++;
        }

        /** The ways of one throw: whether there can be any. */
        boolean tally(Stall stall, Aim aim) {
            Arrays.fill(ways, 0);
            int spread = aim.spread();
            all = (2 * spread + 1) * (2 * spread + 1);
            if (!stall.heed(aim.fact(Aim.HOOP), aim.strict(), aim.x(), aim.y(), spread)) {
                return false;
            }
            if (hoop != aim.fact(Aim.HOOP) || strict != aim.strict()) {
                hoop = aim.fact(Aim.HOOP);
                strict = aim.strict();
                forget();
            }
            int mostX = aim.x() + spread;
            int mostY = aim.y() + spread;
            for (int x = mostX - 2 * spread; x <= mostX; x++) {
                for (int y = mostY - 2 * spread; y <= mostY; y++) {
                    int block = countsAt(stall, x, y);
                    if (block >= 0 && block < ways.length) {
                        ways[block]++;
                    }
                }
            }
            return true;
        }

        private int countsAt(Stall stall, int x, int y) {
            int cell = (x + RIM) * DEEP + y + RIM;
            boolean isKept = x >= -RIM && x < WIDE - RIM && y >= -RIM && y < DEEP - RIM;
            if (!isKept || cell < 0 || cell >= counts.length) {
                return stall.countsFor(x, y);
            }
            if (counts[cell] / MARK != mark) {
                counts[cell] = mark * MARK + stall.countsFor(x, y) + 1;
            }
            return counts[cell] % MARK - 1;
        }

        int waysOf(int block) {
            return block >= 0 && block < ways.length ? ways[block] : 0;
        }

        int waysOfAny() {
            int any = 0;
            for (int block = 0; block < ways.length; block++) {
                any += ways[block];
            }
            return any;
        }

        int oddsOf(int block) {
            return all > 0 ? waysOf(block) * 10000 / all : 0;
        }

        int worthBy(Stall stall) {
            int sum = 0;
            for (int block = 0; block < stall.blocks.size(); block++) {
                sum += stall.blocks.at(block, Stall.PRIZE) * waysOf(block);
            }
            return all > 0 ? sum * 100 / all : 0;
        }

        /** All heights and paces of an aim that stands. */
        void sweep(Stall stall, Aim aim) {
            Arrays.fill(best, 0);
            Arrays.fill(bestHeight, 0);
            Arrays.fill(bestPace, 0);
            bestWorth = 0;
            reach = 0;
            // Heights that the law does not mind are all as the least one is.
            int heights = aim.mindsHeight() ? HEIGHTS : 1;
            for (int height = 0; height < heights; height++) {
                for (int pace = 0; pace < PACES; pace++) {
                    aim.raise(height, pace);
                    if (tally(stall, aim)) {
                        compare(stall, height, pace);
                    }
                }
            }
        }

        private void compare(Stall stall, int height, int pace) {
            bestWorth = Math.max(bestWorth, worthBy(stall));
            for (int block = 0; block < best.length; block++) {
                if (waysOf(block) > 0) {
                    reach |= 1 << block;
                }
                if (oddsOf(block) > best[block] && block < bestHeight.length && block < bestPace.length) {
                    best[block] = oddsOf(block);
                    bestHeight[block] = height;
                    bestPace[block] = pace;
                }
            }
        }

        int bestOf(int block, int what) {
            if (block < 0 || block >= best.length || block >= bestHeight.length || block >= bestPace.length) {
                return 0;
            }
            return what == 0 ? best[block] : what == 1 ? bestHeight[block] : bestPace[block];
        }

        int bestWorth() {
            return bestWorth;
        }

        int reach() {
            return reach;
        }
    }

    /** What is planned over many throws, places, prizes or hoops. */
    private static final class Plans {
        private static final int BLOCKS = 10;
        private static final int HOOPS = 8;
        private static final int FAR_TOO_MANY = 1000000000;

        private final Aim aim;
        private final Odds odds;
        /** For each set of blocks the least that is to be had with it. */
        private final int[] least;
        private final int[] reach;
        private final int[] worths;
        private int given;
        private int blocks;

        Plans(Aim aim, Odds odds) {
            this.aim = aim;
            this.odds = odds;
            least = new int[1024];
            reach = new int[60];
            worths = new int[80];
        }

        private int leastOf(int set) {
            return set >= 0 && set < least.length ? least[set] : FAR_TOO_MANY;
        }

        private void setLeast(int set, int n) {
            if (set >= 0 && set < least.length) {
                least[set] = n;
            }
        }

        private int reachFrom(int place) {
            return place >= 0 && place < reach.length ? reach[place] : 0;
        }

        // -- places at the rope

        int bestPlace(Stall stall, int person, int hoop, int block) {
            int bestOdds = 0;
            int bestPlace = NONE;
            for (int from = 0; from < CLOTH_WIDE; from++) {
                aim.stand(stall, person, hoop, from);
                odds.sweep(stall, aim);
                if (odds.bestOf(block, 0) > bestOdds) {
                    bestOdds = odds.bestOf(block, 0);
                    bestPlace = from;
                }
            }
            return bestPlace;
        }

        int fewestPlaces(Stall stall, int person, int hoop, int k) {
            int all = 0;
            for (int from = 0; from < CLOTH_WIDE && from < reach.length; from++) {
                aim.stand(stall, person, hoop, from);
                odds.sweep(stall, aim);
                reach[from] = odds.reach();
                all |= reach[from];
            }
            cover(all);
            int many = leastOf(all);
            if (many > 6) {
                return NONE;
            }
            return k == NONE ? many : k < 0 || k >= many ? NONE : placeOf(all, k);
        }

        /** How many places each set of blocks needs at least. */
        private void cover(int all) {
            setLeast(0, 0);
            for (int set = 1; set <= all; set++) {
                int fewest = FAR_TOO_MANY;
                for (int from = 0; from < CLOTH_WIDE; from++) {
                    int rest = set & ~reachFrom(from);
                    if (rest != set) {
                        fewest = Math.min(fewest, leastOf(rest) + 1);
                    }
                }
                setLeast(set, fewest);
            }
        }

        /** The k-th place of the first row: the least place by which the rest needs one place fewer comes first. */
        private int placeOf(int all, int k) {
            int rest = all;
            int found = 0;
            for (int from = 0; from < CLOTH_WIDE; from++) {
                int without = rest & ~reachFrom(from);
                if (without != rest && leastOf(without) < leastOf(rest)) {
                    if (found == k) {
                        return from;
                    }
                    found++;
                    rest = without;
                }
            }
            return NONE;
        }

        // -- blocks and their prizes

        /** The stall is a draft: its block has another side behind this. */
        int leastSide(Stall stall, int block) {
            int prize = stall.blocks.at(block, Stall.PRIZE);
            for (int side = 1; side <= 9; side++) {
                stall.blocks.put(block, Stall.SIDE, side);
                odds.forget();
                odds.sweep(stall, aim);
                if (odds.bestOf(block, 0) * prize * 3 <= stall.price * 10000) {
                    return side;
                }
            }
            return NONE;
        }

        /** By the odds that are swept. */
        int arrange(Stall stall, int block) {
            int size = stall.blocks.size();
            int full = stall.blocks.asBits();
            setLeast(full, 0);
            for (int given = full - 1; given >= 0; given--) {
                int best = FAR_TOO_MANY;
                for (int from = 0; from < size; from++) {
                    if ((given & 1 << from) == 0) {
                        best = Math.min(best, costOf(stall, given, from));
                    }
                }
                setLeast(given, best);
            }
            return block == NONE ? leastOf(0) : prizeFor(stall, block);
        }

        /** The least sum, if of the prizes that are not given yet that of a block is given to the next block. */
        private int costOf(Stall stall, int given, int from) {
            int next = Integer.bitCount(given);
            return odds.bestOf(next, 0) * stall.blocks.at(from, Stall.PRIZE) + leastOf(given | 1 << from);
        }

        private int prizeFor(Stall stall, int block) {
            int given = 0;
            for (int next = 0; next <= block; next++) {
                int from = firstFor(stall, given);
                if (next == block) {
                    return from;
                }
                given |= 1 << from;
            }
            return NONE;
        }

        private int firstFor(Stall stall, int given) {
            for (int from = 0; from < stall.blocks.size(); from++) {
                if ((given & 1 << from) == 0 && costOf(stall, given, from) == leastOf(given)) {
                    return from;
                }
            }
            return 0;
        }

        // -- throws one behind another

        int throwsTillSure(Stall stall, int block) {
            int sum = 0;
            for (int n = 1; n <= 200; n++) {
                odds.tally(stall, aim);
                sum += odds.oddsOf(block);
                if (sum >= 10000) {
                    return n;
                }
                aim.grow();
            }
            return NONE;
        }

        int bestStop(Stall stall, boolean much) {
            int sum = 0;
            int most = 0;
            int stop = 0;
            for (int n = 1; n <= 60; n++) {
                odds.tally(stall, aim);
                sum += odds.worthBy(stall);
                if (n % 3 == 1) {
                    sum -= stall.price * 100;
                }
                if (sum > most) {
                    most = sum;
                    stop = n;
                }
                aim.grow();
            }
            return much ? most : stop;
        }

        // -- the game

        void weigh(Stall stall, int person, int from, int hoops) {
            given = hoops & stall.hoops.asBits();
            blocks = stall.blocks.size();
            for (int hoop = 0; hoop < HOOPS; hoop++) {
                if (isGiven(hoop)) {
                    aim.stand(stall, person, hoop, from);
                    odds.sweep(stall, aim);
                    weighBlocks(stall, hoop);
                }
            }
        }

        private void weighBlocks(Stall stall, int hoop) {
            for (int block = 0; block < blocks; block++) {
                int cell = hoop * BLOCKS + block;
                if (cell >= 0 && cell < worths.length) {
                    worths[cell] = odds.bestOf(block, 0) * stall.blocks.at(block, Stall.PRIZE);
                }
            }
        }

        private boolean isGiven(int hoop) {
            return (given & 1 << hoop) != 0;
        }

        private int worthAt(int hoop, int block) {
            int cell = hoop * BLOCKS + block;
            return cell >= 0 && cell < worths.length ? worths[cell] : 0;
        }

        private int leastAt(int block) {
            int worst = FAR_TOO_MANY;
            for (int hoop = 0; hoop < HOOPS; hoop++) {
                if (isGiven(hoop)) {
                    worst = Math.min(worst, worthAt(hoop, block));
                }
            }
            return worst;
        }

        private int mostWith(int hoop) {
            int most = 0;
            for (int block = 0; block < blocks; block++) {
                most = Math.max(most, worthAt(hoop, block));
            }
            return most;
        }

        int surelyWon() {
            int won = 0;
            for (int block = 0; block < blocks; block++) {
                won = Math.max(won, leastAt(block));
            }
            return won;
        }

        int surelyLost() {
            int lost = FAR_TOO_MANY;
            for (int hoop = 0; hoop < HOOPS; hoop++) {
                if (isGiven(hoop)) {
                    lost = Math.min(lost, mostWith(hoop));
                }
            }
            return lost;
        }

        int rests() {
            int rests = 0;
            for (int hoop = 0; hoop < HOOPS; hoop++) {
                for (int block = 0; isGiven(hoop) && block < blocks; block++) {
                    int worth = worthAt(hoop, block);
                    if (worth == leastAt(block) && worth == mostWith(hoop)) {
                        rests++;
                    }
                }
            }
            return rests;
        }
    }

    /** What is known of a hoop by sides that it was tried on. */
    private static final class Gauge {
        private int over;
        private int notOver;

        boolean reads(Tape tape) {
            over = 0;
            notOver = 0;
            if (tape.size() % 2 != 0) {
                return false;
            }
            for (int place = 0; place < tape.size(); place += 2) {
                int side = tape.at(place);
                int told = tape.at(place + 1);
                if (side < 1 || side > 9 || told > 1) {
                    return false;
                }
                if (told == 1) {
                    over |= 1 << side;
                } else {
                    notOver |= 1 << side;
                }
            }
            return true;
        }

        int kinds() {
            return kindsWith(over, notOver);
        }

        /** How many kinds go over all sides of one set, and over none of another. */
        private static int kindsWith(int all, int none) {
            int kinds = 0;
            for (int across = 2; across <= 15; across++) {
                for (int oval = 0; oval <= 9 && oval < across; oval++) {
                    int goes = sidesOf(across, oval);
                    if ((goes & all) == all && (goes & none) == 0) {
                        kinds++;
                    }
                }
            }
            return kinds;
        }

        private static int sidesOf(int across, int oval) {
            int sides = 0;
            for (int side = 1; side <= 9; side++) {
                if (Stall.isOver(across - oval, across, side, 0, 0)) {
                    sides |= 1 << side;
                }
            }
            return sides;
        }

        int nextSide() {
            int kinds = kinds();
            if (kinds < 2) {
                return NONE;
            }
            int best = NONE;
            int bestPart = kinds + 1;
            for (int side = 1; side <= 9; side++) {
                int part = kindsWith(over | 1 << side, notOver);
                part = Math.max(part, kinds - part);
                if (part < bestPart) {
                    best = side;
                    bestPart = part;
                }
            }
            return best;
        }
    }

    /** The latest 12 acts, each as all was ahead of it. */
    private static final class Past {
        private static final int MOST = 12;

        private final Stall[] stalls;
        private int next;
        private int size;

        Past(Law none) {
            stalls = new Stall[MOST];
            for (int i = 0; i < stalls.length; i++) {
                stalls[i] = new Stall(none);
            }
            next = 0;
            size = 0;
        }

        int size() {
            return size;
        }

        void remember(Stall stall) {
            if (next >= 0 && next < stalls.length && stalls[next] != null) {
                stalls[next].copyFrom(stall);
                next = (next + 1) % MOST;
                size = Math.min(MOST, size + 1);
            }
        }

        boolean takeBack(Stall stall) {
            int latest = (next + MOST - 1) % MOST;
            if (size <= 0 || latest < 0 || latest >= stalls.length || stalls[latest] == null) {
                return false;
            }
            stall.copyFrom(stalls[latest]);
            next = latest;
            size--;
            return true;
        }

        void forget() {
            size = 0;
        }
    }
}
