/** What the document says of each call ("Promise 1" to "Promise 46"), of exceptions and of calls that throw. */
final class CallSentences {
    private static final String INDEX = Sentences.INDEX;
    private static final String ARGUMENT = Sentences.ARGUMENT;
    private static final String STATE = Sentences.STATE;
    private static final String ELEMENT = Sentences.ELEMENT;
    private static final int LEAST = Integer.MIN_VALUE;
    private static final int GREATEST = Integer.MAX_VALUE;

    /** Two BLOCKS, three HOOPS, two people; SURE as in the other tests. */
    private static final String SURE = "block 20 9 side 2 prize 30;block 20 21 side 4 prize 100 velvet;"
            + "hoop 6 oval 0;hoop 4 oval 2 wet;hoop 3 oval 0;person 99;person 0;price 9";

    private final Sentences s;

    CallSentences(Sentences s) {
        this.s = s;
    }

    void run() {
        newObject();
        feed();
        end();
        fairAndLaw();
        fault();
        rows();
        aims();
        toss();
        smallActs();
        move();
        lies();
        overTheBlock();
        comes();
        waysAndWorth();
        howAndWhere();
        reachedAndPlaces();
        earnsAndLarge();
        arrangedTillStop();
        game();
        gauge();
        nearAndGap();
        trialAndSpan();
        robbedAndLed();
        log();
        seed();
        undoImageBack();
        count();
        noSuchOne();
        noNumber();
        toldFirst();
        nothingChanges();
    }

    private interface Numbered {
        Object answer(int n);
    }

    /** From low to high none throws; of those beside them each throws so. */
    private void dueBounds(int low, int high, String otherwise, Numbered call) {
        for (int n : new int[] {low, low + 1, high - 1, high}) {
            s.due(Check.answerOf(() -> call.answer(n)).startsWith("throws."), false);
        }
        for (int n : new int[] {LEAST, low - 1, high + 1, GREATEST}) {
            s.due(() -> call.answer(n), otherwise);
        }
    }

    private void dueIndex(int many, Numbered call) {
        dueBounds(0, many - 1, INDEX, call);
    }

    private void dueFrom(Numbered call) {
        dueBounds(0, 59, ARGUMENT, call);
    }

    private void newObject() {
        s.says("`HoopFair()`: No BLOCK yet.");
        int[] counts = {0, 0, 0, 0, -1, 0, 0, 0, 0, 6, 1, 0, 0, 0, 0};
        for (int what = 0; what < counts.length; what++) {
            s.due(new HoopFair().count(what), counts[what]);
        }
        HoopFair f = new HoopFair();
        s.due(() -> f.block(0, 0), INDEX);
        s.due(() -> f.hoop(0, 0), INDEX);
        s.due(() -> f.person(0, 0), INDEX);
        s.due(() -> f.lies(0, 0), -1);
        s.due(() -> f.log(0, 0), -99);
        s.due(f::hidden, 0);
        s.due(f::clear, 0);
        s.due(() -> f.robbed(-1), 0);
        s.due(f::fault, -1);
        s.due(f::back, false);
    }

    private void feed() {
        s.says("Twenty bytes come behind the TAPE, of each number the highest first: how many it has; NONE, and none come, if it would have"
                + " more than 400.");
        HoopFair f = new HoopFair();
        s.due(() -> f.feed(0x70726963, 0x65203120, 0x3b70726e, 0, 0), 20);
        f.end(10);
        s.due(() -> f.feed(0x72696365, 0x2037393b, 0x6b6e6f63, 0x6b20333b, 0x20202020), 30);
        f.end(18);
        // "price 1 ;price 79": behind what was left.
        f.end(8);
        s.due(f::fair, 1);
        s.due(() -> f.count(9), 1);
        HoopFair g = new HoopFair();
        for (int n = 20; n <= 380; n += 20) {
            int want = n;
            s.due(() -> g.feed(0x20202020, 0x20202020, 0x20202020, 0x20202020, 0x20202020), want);
        }
        g.end(361);
        g.feed(0x20202020, 0x20202020, 0x20202020, 0x20202020, 0x20202020);
        s.due(() -> g.feed(-1, -1, -1, -1, -1), -1);
        s.due(() -> g.end(382), false);
        g.end(380);
        s.due(() -> g.feed(0x20202020, 0x20202020, 0x20202020, 0x20707269, 0x63652039), 400);
        s.due(() -> g.feed(-1, -1, -1, -1, -1), -1);
        s.due(g::fair, 1);
        s.due(() -> g.count(9), 9);
        s.due(() -> g.feed(0, 0, 0, 0, 0), 20);
        // The highest bit of each byte comes whole: 255 is a wrong byte, at its place.
        g.end(0);
        g.feed(0x70726963, 0x652034ff, 0, 0, 0);
        g.end(8);
        s.due(g::fair, ARGUMENT);
        s.due(g::fault, 7);
    }

    private void end() {
        s.says("The TAPE has its first n bytes alone: true; false, and nothing happens, if it has fewer, or n is below 0.");
        HoopFair f = new HoopFair();
        s.due(() -> f.end(0), true);
        s.due(() -> f.end(1), false);
        f.feed(0x70726963, 0x65203739, 0, 0, 0);
        for (int n : new int[] {-1, 21, LEAST, GREATEST}) {
            s.due(() -> f.end(n), false);
        }
        s.due(() -> f.end(20), true);
        s.due(() -> f.end(8), true);
        s.due(() -> f.end(9), false);
        s.due(() -> f.end(8), true);
        s.due(f::fair, 1);
        s.due(() -> f.count(9), 79);
        s.due(() -> f.end(0), true);
    }

    private void fairAndLaw() {
        s.says("Uses the TAPE up: a text of THE FAIR: how many there are. IllegalArgumentException: it is wrong; UnsupportedOperationException:"
                + " there are 12.");
        HoopFair f = new HoopFair();
        for (int i = 1; i <= 12; i++) {
            s.due(Texts.fair(f, "price 1"), i);
            s.due(() -> f.end(1), false);
        }
        s.due(() -> Texts.fair(f, "price 2"), Sentences.UNSUPPORTED);
        s.due(() -> f.end(1), false);
        s.due(() -> Texts.fair(f, "price"), ARGUMENT);
        s.due(() -> f.end(1), false);
        s.due(() -> Texts.fair(f, ""), Sentences.UNSUPPORTED);
        s.due(() -> f.count(9), 1);
        f.image();
        f.back();
        s.due(() -> Texts.fair(f, ""), Sentences.UNSUPPORTED);
        HoopFair g = new HoopFair();
        g.image();
        Texts.fair(g, "price 2");
        g.back();
        s.due(() -> Texts.fair(g, "price 3"), 1);

        s.says("Uses the TAPE up: THE LAW: how many LINES. IllegalArgumentException: the text is wrong.");
        s.law(f, "far 1;far 2;far 3", 3);
        s.due(() -> f.end(1), false);
        s.due(() -> Texts.law(f, "far 1;"), ARGUMENT);
        s.due(() -> f.end(1), false);
        s.due(() -> f.count(4), 3);
        s.due(f::law, 0);
    }

    private void fault() {
        s.says("The first wrong byte of the latest text that was read; NONE without one, and ahead of any.");
        HoopFair f = new HoopFair();
        s.due(f::fault, -1);
        Texts.fair(f, "price 1;x");
        s.due(f::fault, 8);
        s.due(f::fault, 8);
        Texts.law(f, "far x");
        s.due(f::fault, 4);
        // A gauge is no text, even one that is wrong.
        Sentences.tape(f, 9, 1, 4);
        s.due(() -> f.gauge(true), ARGUMENT);
        s.due(f::fault, 4);
        Sentences.tape(f, 9, 1);
        f.gauge(true);
        s.due(f::fault, 4);
        Texts.law(f, "far 1");
        s.due(f::fault, -1);
        Texts.law(f, "y");
        s.due(f::fault, 0);
        Texts.fair(f, "");
        s.due(f::fault, -1);

        s.says("and fault(), where a text is read (also by one that is refused).");
        for (int i = 0; i < 11; i++) {
            Texts.fair(f, "");
        }
        s.due(() -> f.count(3), 12);
        Texts.law(f, "far");
        s.due(f::fault, 3);
        s.due(() -> Texts.fair(f, "price 1"), Sentences.UNSUPPORTED);
        s.due(f::fault, -1);
        s.due(() -> Texts.fair(f, "price 1 2"), ARGUMENT);
        s.due(f::fault, 8);
    }

    private void rows() {
        HoopFair f = Texts.of(SURE);
        s.says("Of a BLOCK what 0 X, 1 Y, 2 SIDE, 3 PRIZE, 4 1 of VELVET, 5 those in front of it, as bits. NoSuchElementException: another what.");
        dueRow(w -> f.block(1, w), 20, 21, 4, 100, 1, 1);
        dueRow(w -> f.block(0, w), 20, 9, 2, 30, 0, 0);
        dueIndex(2, b -> f.block(b, 0));
        s.says("Of a HOOP what 0 ACROSS, 1 OVAL, 2 1 if WET, 3 WIDEST. NoSuchElementException: another what.");
        dueRow(w -> f.hoop(1, w), 4, 2, 1, 1);
        dueRow(w -> f.hoop(0, w), 6, 0, 0, 4);
        dueIndex(3, h -> f.hoop(h, 0));
        s.says("Of a PERSON what 0 SKILL, 1 throws, 2 how many COUNTED (not KNOCKED ones). NoSuchElementException: another what.");
        f.toss(1, 0, 50, 0, 3);
        f.skill(1, 90);
        f.toss(1, 0, 20, 0, 3);
        dueRow(w -> f.person(1, w), 91, 2, 1);
        dueRow(w -> f.person(0, w), 99, 0, 0);
        dueIndex(2, p -> f.person(p, 0));
        HoopFair g = Texts.of("block 20 9 side 2 prize 30;hoop 6 oval 0;person 99;bounce 0;knock 3;counts 1");
        g.toss(0, 0, 18, 0, 3);
        g.toss(0, 0, 17, 0, 3);
        s.due(() -> g.count(6), 30);
        s.due(() -> g.person(0, 2), 0);
    }

    private void dueRow(Numbered call, int... want) {
        for (int what = 0; what < want.length; what++) {
            int w = what;
            s.due(() -> call.answer(w), want[what]);
        }
        dueBounds(0, want.length - 1, ELEMENT, call);
    }

    private void aims() {
        s.says("Of a throw what 0 X, 1 Y where it is AIMED, 2 SPREAD as it counts, 3 STRICT. IllegalArgumentException: a number is none, or what is.");
        HoopFair f = Texts.of(SURE);
        s.law(f, "strict 6;right 2;far 1;spread 3", 4);
        int[] want = {12, 10, 3, 6};
        for (int what = 0; what < 4; what++) {
            int w = what;
            s.due(() -> f.aims(1, 0, 10, 2, 3, w), want[what]);
        }
        dueBounds(0, 3, ARGUMENT, w -> f.aims(1, 0, 10, 2, 3, w));
        dueFrom(n -> f.aims(1, 0, n, 2, 3, 0));
        dueBounds(0, 5, ARGUMENT, n -> f.aims(1, 0, 10, n, 3, 0));
        dueBounds(0, 11, ARGUMENT, n -> f.aims(1, 0, 10, 2, n, 0));
        dueIndex(2, n -> f.aims(n, 0, 10, 2, 3, 0));
        dueIndex(3, n -> f.aims(0, n, 10, 2, 3, 0));
    }

    private void toss() {
        s.says("THROWN: the BLOCK it COUNTS for; NONE on THE CLOTH; - 2 ASLANT. IllegalArgumentException: a number is none.");
        HoopFair f = Texts.of(SURE);
        s.due(() -> f.toss(0, 0, 20, 0, 3), 0);
        s.due(() -> f.toss(0, 0, 20, 0, 7), 1);
        s.due(() -> f.toss(0, 0, 50, 0, 7), -1);
        s.due(() -> f.toss(0, 0, 22, 0, 7), -2);
        dueFrom(n -> f.toss(0, 0, n, 0, 3));
        dueBounds(0, 5, ARGUMENT, n -> f.toss(0, 0, 20, n, 3));
        dueBounds(0, 11, ARGUMENT, n -> f.toss(0, 0, 20, 0, n));
        dueIndex(2, n -> f.toss(n, 0, 20, 0, 3));
        dueIndex(3, n -> f.toss(0, n, 20, 0, 3));
    }

    private void smallActs() {
        HoopFair f = Texts.of(SURE);
        s.says("`int clear()`: All that LIE are taken up: how many.");
        s.due(f::clear, 0);
        for (int i = 0; i < 31; i++) {
            f.toss(0, 0, 50, 0, 3);
        }
        s.due(f::clear, 30);
        s.due(() -> f.count(8), 0);
        s.due(() -> f.lies(0, 0), -1);
        s.due(f::clear, 0);

        s.says("A HOOP is WET, or dry: whether that changed.");
        s.due(() -> f.wets(0, false), false);
        s.due(() -> f.wets(0, true), true);
        s.due(() -> f.wets(0, true), false);
        s.due(() -> f.wets(0, false), true);
        s.due(() -> f.wets(1, true), false);
        s.due(() -> f.hoop(1, 2), 1);
        dueIndex(3, n -> f.wets(n, true));

        s.says("SKILL is told: what it was. IllegalArgumentException: it is none.");
        s.due(() -> f.skill(1, 99), 0);
        s.due(() -> f.skill(1, 0), 99);
        s.due(() -> f.skill(1, 0), 0);
        dueBounds(0, 99, ARGUMENT, n -> f.skill(1, n));
        dueIndex(2, n -> f.skill(n, 5));
    }

    private void move() {
        s.says("A BLOCK is moved: how far it went (the greater of both). IllegalArgumentException: X or Y are none; IllegalStateException: it"
                + " would overlap another one (GAP below 0).");
        HoopFair f = Texts.of(SURE);
        s.due(() -> f.move(0, 20, 9), 0);
        s.due(() -> f.move(0, 24, 12), 4);
        s.due(() -> f.move(0, 22, 7), 5);
        s.due(() -> f.move(0, 23, 8), 1);
        s.due(() -> f.block(0, 0) + 100 * f.block(0, 1), 823);
        dueBounds(0, 59, ARGUMENT, n -> f.move(0, n, 0));
        dueBounds(0, 39, ARGUMENT, n -> f.move(0, 0, n));
        dueIndex(2, n -> f.move(n, 30 + 5 * n, 30));
        HoopFair g = Texts.of("block 20 9 side 2 prize 30;block 20 21 side 4 prize 1;block 40 9 side 5 prize 1");
        int[][] right = {{17, 21}, {23, 21}, {20, 18}, {20, 24}, {17, 18}, {23, 24}};
        int[][] wrong = {{18, 21}, {22, 21}, {20, 19}, {20, 23}, {20, 21}, {18, 19}, {22, 23}, {37, 9}, {43, 12}};
        for (int[] at : right) {
            g.move(0, at[0], at[1]);
            s.due(() -> g.block(0, 0) * 100 + g.block(0, 1), at[0] * 100 + at[1]);
        }
        for (int[] at : wrong) {
            s.due(() -> g.move(0, at[0], at[1]), STATE);
        }
        s.due(() -> g.move(0, 36, 9), 15);
        s.due(() -> g.gap(0, 2), 1);
        s.due(() -> g.move(2, 39, 9), STATE);
        HoopFair h = Texts.of("block 5 5 side 4 prize 0;block 6 6 side 4 prize 0");
        s.due(() -> h.move(1, 6, 6), STATE);
        s.due(() -> h.move(1, 9, 6), 3);
    }

    private void lies() {
        s.says("Of the k-th HOOP that LIES (0 the oldest) what 0 which, 1 X, 2 Y, 3 1 if ASLANT; NONE without. NoSuchElementException: another"
                + " what (asked first).");
        HoopFair f = Texts.of(SURE);
        f.toss(0, 1, 50, 0, 3);
        f.toss(0, 0, 23, 0, 7);
        int[][] want = {{1, 50, 9, 0}, {0, 23, 21, 1}};
        for (int k = 0; k < 2; k++) {
            int row = k;
            dueRow(w -> f.lies(row, w), want[k]);
        }
        for (int k : new int[] {LEAST, -1, 2, 3, 29, 30, GREATEST}) {
            for (int what = 0; what < 4; what++) {
                int w = what;
                s.due(() -> f.lies(k, w), -1);
            }
            s.due(() -> f.lies(k, 4), ELEMENT);
            s.due(() -> f.lies(k, -1), ELEMENT);
        }
    }

    private void overTheBlock() {
        HoopFair f = Texts.of(SURE);
        s.law(f, "strict 9", 1);
        s.says("Whether a HOOP with its middle at DX, DY (-60 to 60 each) from a BLOCK's is OVER it, by STRICT 0. IllegalArgumentException:"
                + " these are none.");
        s.due(() -> f.over(0, 0, 1, -1), true);
        dueBounds(-60, 60, ARGUMENT, n -> f.over(0, 0, n, 0));
        dueBounds(-60, 60, ARGUMENT, n -> f.over(0, 0, 0, n));
        dueIndex(3, n -> f.over(n, 0, 0, 0));
        dueIndex(2, n -> f.over(0, n, 0, 0));
        s.says("spots(int hoop, int block) throws IndexOutOfBoundsException`: SPOTS.");
        dueIndex(3, n -> f.spots(n, 0));
        dueIndex(2, n -> f.spots(0, n));
        s.says("NARROWEST; NONE. IllegalArgumentException: OVAL is none.");
        dueBounds(0, 9, ARGUMENT, n -> f.narrowest(0, n));
        dueIndex(2, n -> f.narrowest(n, 0));
    }

    private void comes() {
        s.says("WHAT COMES of a HOOP at X, Y (-99 to 99 each) by a STRICT (0 to 99): the BLOCK; NONE; - 2. IllegalArgumentException: these are none.");
        HoopFair f = Texts.of(SURE);
        s.due(() -> f.comes(0, 20, 21, 0), 1);
        s.due(() -> f.comes(0, 20, 21, 1), -2);
        s.due(() -> f.comes(0, 50, 21, 0), -1);
        dueBounds(-99, 99, ARGUMENT, n -> f.comes(0, n, 9, 0));
        dueBounds(-99, 99, ARGUMENT, n -> f.comes(0, 20, n, 0));
        dueBounds(0, 99, ARGUMENT, n -> f.comes(0, 20, 9, n));
        dueIndex(3, n -> f.comes(n, 20, 9, 0));
        s.due(() -> f.count(8) + f.count(7), 0);
    }

    private void waysAndWorth() {
        HoopFair f = Texts.of(SURE);
        s.says("WAYS (block NONE: of any BLOCK). IllegalArgumentException: a number is none.");
        s.due(() -> f.ways(1, 0, 20, 0, 3, -1), 12);
        dueBounds(-1, 1, INDEX, n -> f.ways(0, 0, 20, 0, 3, n));
        dueIndex(2, n -> f.ways(n, 0, 20, 0, 3, -1));
        dueIndex(3, n -> f.ways(0, n, 20, 0, 3, -1));
        dueFrom(n -> f.ways(0, 0, n, 0, 3, -1));
        dueBounds(0, 5, ARGUMENT, n -> f.ways(0, 0, 20, n, 3, -1));
        dueBounds(0, 11, ARGUMENT, n -> f.ways(0, 0, 20, 0, n, -1));
        s.due(() -> new HoopFair().ways(0, 0, 20, 0, 3, -1), INDEX);
        s.says("WORTH. IllegalArgumentException: a number is none.");
        dueIndex(2, n -> f.worth(n, 0, 20, 0, 3));
        dueIndex(3, n -> f.worth(0, n, 20, 0, 3));
        dueFrom(n -> f.worth(0, 0, n, 0, 3));
        dueBounds(0, 5, ARGUMENT, n -> f.worth(0, 0, 20, n, 3));
        dueBounds(0, 11, ARGUMENT, n -> f.worth(0, 0, 20, 0, n));
        s.due(() -> Texts.of("hoop 6 oval 0;person 0").worth(0, 0, 20, 0, 3), 0);
        s.due(() -> Texts.of("hoop 6 oval 0;person 0").ways(0, 0, 20, 0, 3, -1), 0);
    }

    private void howAndWhere() {
        HoopFair f = Texts.of(SURE);
        s.says("HOW what 0 ODDS, 1 HEIGHT, 2 PACE. IllegalArgumentException: FROM is none; NoSuchElementException: another what.");
        s.law(f, "right 3 if height<2", 1);
        dueRow(w -> f.how(0, 0, 20, 1, w), 10000, 2, 7);
        dueIndex(2, n -> f.how(n, 0, 20, 0, 0));
        dueIndex(3, n -> f.how(0, n, 20, 0, 0));
        dueIndex(2, n -> f.how(0, 0, 20, n, 0));
        dueFrom(n -> f.how(0, 0, n, 0, 0));
        s.says("where(int person, int hoop, int block) throws IndexOutOfBoundsException`: WHERE; NONE.");
        s.due(() -> f.where(0, 1, 0), -1);
        dueIndex(2, n -> f.where(n, 0, 0));
        dueIndex(3, n -> f.where(0, n, 0));
        dueIndex(2, n -> f.where(0, 0, n));
    }

    private void reachedAndPlaces() {
        HoopFair f = Texts.of(SURE);
        s.says("REACHED, as bits. IllegalArgumentException: FROM is none.");
        dueIndex(2, n -> f.reached(n, 0, 20));
        dueIndex(3, n -> f.reached(0, n, 20));
        dueFrom(n -> f.reached(0, 0, n));
        s.says("PLACES: how many (k NONE), or the k-th; NONE.");
        s.due(() -> f.places(0, 0, -1), 1);
        s.due(() -> f.places(0, 0, 0), 20);
        for (int k : new int[] {LEAST, -2, 1, 6, 60, GREATEST}) {
            s.due(() -> f.places(0, 0, k), -1);
        }
        dueIndex(2, n -> f.places(n, 0, 0));
        dueIndex(3, n -> f.places(0, n, 0));
    }

    private void earnsAndLarge() {
        HoopFair f = Texts.of(SURE);
        s.says("EARNS. IllegalArgumentException: FROM is none.");
        dueIndex(2, n -> f.earns(n, 0, 20));
        dueIndex(3, n -> f.earns(0, n, 20));
        dueFrom(n -> f.earns(0, 0, n));
        s.says("LARGE; NONE. IllegalArgumentException: FROM is none.");
        dueIndex(2, n -> f.large(n, 0, 20, 0));
        dueIndex(3, n -> f.large(0, n, 20, 0));
        dueIndex(2, n -> f.large(0, 0, 20, n));
        dueFrom(n -> f.large(0, 0, n, 0));
    }

    private void arrangedTillStop() {
        HoopFair f = Texts.of(SURE);
        s.says("ARRANGED: the sum (block NONE), or whose PRIZE. IllegalArgumentException: FROM is none.");
        s.due(() -> f.arranged(1, 0, 20, -1), 30 * 4800 + 100 * 400);
        dueBounds(-1, 1, INDEX, n -> f.arranged(0, 0, 20, n));
        dueIndex(2, n -> f.arranged(n, 0, 20, -1));
        dueIndex(3, n -> f.arranged(0, n, 20, -1));
        dueFrom(n -> f.arranged(0, 0, n, -1));
        s.says("TILL; NONE. IllegalArgumentException: a number is none.");
        dueIndex(2, n -> f.till(n, 0, 20, 0, 3, 0));
        dueIndex(3, n -> f.till(0, n, 20, 0, 3, 0));
        dueIndex(2, n -> f.till(0, 0, 20, 0, 3, n));
        dueFrom(n -> f.till(0, 0, n, 0, 3, 0));
        dueBounds(0, 5, ARGUMENT, n -> f.till(0, 0, 20, n, 3, 0));
        dueBounds(0, 11, ARGUMENT, n -> f.till(0, 0, 20, 0, n, 0));
        s.says("STOP: the number (much false), or how much. IllegalArgumentException: a number is none.");
        dueIndex(2, n -> f.stop(n, 0, 20, 0, 3, true));
        dueIndex(3, n -> f.stop(0, n, 20, 0, 3, false));
        dueFrom(n -> f.stop(0, 0, n, 0, 3, true));
        dueBounds(0, 5, ARGUMENT, n -> f.stop(0, 0, 20, n, 3, false));
        dueBounds(0, 11, ARGUMENT, n -> f.stop(0, 0, 20, 0, n, true));
    }

    private void game() {
        s.says("IllegalArgumentException: FROM is none; IllegalStateException: there is no HOOP in the set, or no BLOCK; NoSuchElementException:"
                + " another what.");
        HoopFair f = Texts.of(SURE);
        dueBounds(0, 2, ELEMENT, n -> f.game(0, 20, 7, n));
        dueIndex(2, n -> f.game(n, 20, 7, 0));
        dueFrom(n -> f.game(0, n, 7, 0));
        for (int set : new int[] {0, 8, 16, 128, 256, -8, LEAST}) {
            s.due(() -> f.game(0, 20, set, 0), STATE);
            s.due(() -> f.game(0, 20, set, 3), STATE);
            s.due(() -> f.game(0, 60, set, 3), ARGUMENT);
            s.due(() -> f.game(2, 60, set, 3), INDEX);
        }
        s.due(() -> Texts.of("hoop 6 oval 0;person 0").game(0, 20, 1, 0), STATE);
        s.due(() -> Texts.of("block 1 1 side 1 prize 1;person 0").game(0, 20, 1, 0), STATE);
        s.due(() -> new HoopFair().game(0, 20, 1, 0), INDEX);
    }

    private void gauge() {
        s.says("GAUGE (of each two bytes: SIDE 1 to 9, 1 if it went OVER, or 0): how many KINDS (next false), or NEXT; NONE."
                + " IllegalArgumentException: the TAPE is not that (none may be told).");
        HoopFair f = new HoopFair();
        int[][] wrong = {{1}, {1, 0, 2}, {0, 0}, {0, 1}, {10, 1}, {255, 0}, {1, 2}, {1, 255}, {1, 1, 2, 2}, {1, 1, 0, 0}, {9, 1, 9, 1, 9}, {49, 48},
            {1, 128}, {129, 1}};
        for (int[] bytes : wrong) {
            for (int next = 0; next < 2; next++) {
                boolean asksNext = next == 1;
                Sentences.tape(f, bytes);
                s.due(() -> f.gauge(asksNext), ARGUMENT);
                s.due(() -> f.end(1), false);
            }
        }
        s.due(() -> f.gauge(false), 104);
        s.due(() -> f.gauge(true), 5);
        Sentences.tape(f, 1, 0, 9, 1);
        s.due(() -> f.gauge(false), 0);
        s.due(() -> f.end(1), false);
        Sentences.tape(f, 1, 0, 9, 1);
        s.due(() -> f.gauge(true), -1);
        s.due(() -> f.end(1), false);
        // What was told of one HOOP is not told of the next.
        s.due(() -> f.gauge(false), 104);
        int[] full = new int[400];
        for (int i = 0; i < 400; i += 2) {
            full[i] = 1;
        }
        Sentences.tape(f, full);
        s.due(() -> f.gauge(false), 9);
        full[399] = 1;
        Sentences.tape(f, full);
        s.due(() -> f.gauge(false), 0);
    }

    private void nearAndGap() {
        HoopFair f = Texts.of(SURE);
        s.says("NEAR, as bits. IllegalArgumentException: X, Y are none (of THE CLOTH), or N (0 to 60).");
        dueBounds(0, 59, ARGUMENT, n -> f.near(n, 9, 3));
        dueBounds(0, 39, ARGUMENT, n -> f.near(20, n, 3));
        dueBounds(0, 60, ARGUMENT, n -> f.near(20, 9, n));
        s.says("GAP. IllegalArgumentException: both are one.");
        s.due(() -> f.gap(0, 0), ARGUMENT);
        s.due(() -> f.gap(1, 1), ARGUMENT);
        s.due(() -> f.gap(2, 2), INDEX);
        s.due(() -> f.gap(-1, -1), INDEX);
        for (int n : new int[] {LEAST, -1, 2, GREATEST}) {
            s.due(() -> f.gap(n, 0), INDEX);
            s.due(() -> f.gap(0, n), INDEX);
        }
    }

    private void trialAndSpan() {
        HoopFair f = Texts.of(SURE);
        s.says("TRIAL by HEIGHT 2: N throws. IllegalArgumentException: a number is none.");
        s.law(f, "right 9 if height<2;right 9 if height>2", 2);
        s.due(() -> f.trial(0, 0, 20, 3, 7), 7);
        dueBounds(0, 40, ARGUMENT, n -> f.trial(0, 0, 20, 3, n));
        dueFrom(n -> f.trial(0, 0, n, 3, 1));
        dueBounds(0, 11, ARGUMENT, n -> f.trial(0, 0, 20, n, 1));
        dueIndex(2, n -> f.trial(n, 0, 20, 3, 1));
        dueIndex(3, n -> f.trial(0, n, 20, 3, 1));
        s.says("SPAN by HEIGHT 2: the fewest (most false), or the most. IllegalArgumentException: a number is none.");
        s.due(() -> f.span(0, 0, 20, 3, 7, false), 7);
        s.due(() -> f.span(0, 0, 20, 3, 7, true), 7);
        dueBounds(0, 40, ARGUMENT, n -> f.span(0, 0, 20, 3, n, true));
        dueFrom(n -> f.span(0, 0, n, 3, 1, false));
        dueBounds(0, 11, ARGUMENT, n -> f.span(0, 0, 20, n, 1, true));
        dueIndex(2, n -> f.span(n, 0, 20, 3, 1, false));
        dueIndex(3, n -> f.span(0, n, 20, 3, 1, true));
    }

    private void robbedAndLed() {
        HoopFair f = Texts.of(SURE);
        s.says("ROBBED (person NONE: of all).");
        dueBounds(-1, 1, INDEX, n -> f.robbed(n));
        s.due(() -> f.robbed(-2), INDEX);
        s.says("LED: by how many rows (latest false), or how many throws ago the latest is (0 the latest; NONE).");
        dueIndex(2, n -> f.led(n, false));
        dueIndex(2, n -> f.led(n, true));
        s.due(() -> f.led(0, true), -1);
        s.due(() -> f.led(0, false), 0);
    }

    private void log() {
        s.says("THE LOG so many ago (0 the latest) what 0 who, 1 the HOOP, 2 X, 3 Y, 4 what came, 5 the BLOCK of a KNOCKED one; - 99 without."
                + " NoSuchElementException: another what (asked first).");
        HoopFair f = Texts.of(SURE);
        f.toss(0, 2, 22, 0, 3);
        f.toss(0, 1, 50, 0, 3);
        int[][] want = {{0, 1, 50, 9, -1, -1}, {0, 2, 22, 9, -2, -1}};
        for (int ago = 0; ago < 2; ago++) {
            int a = ago;
            dueRow(w -> f.log(a, w), want[ago]);
        }
        for (int ago : new int[] {LEAST, LEAST + 1, -1, 2, 3, 59, 60, GREATEST}) {
            for (int what = 0; what < 6; what++) {
                int w = what;
                s.due(() -> f.log(ago, w), -99);
            }
            s.due(() -> f.log(ago, 6), ELEMENT);
            s.due(() -> f.log(ago, -1), ELEMENT);
        }
    }

    private void seed() {
        s.says("`int seed(int n)`: SEED: what it was.");
        HoopFair f = new HoopFair();
        int was = 1;
        for (int n : new int[] {0, -1, LEAST, GREATEST, 7}) {
            int want = was;
            s.due(() -> f.seed(n), want);
            was = n;
        }
        s.due(() -> f.count(14), 0);
    }

    private void undoImageBack() {
        HoopFair f = Texts.of(SURE);
        s.says("UNDONE: whether there was one.");
        s.due(f::undo, false);
        f.clear();
        s.due(f::undo, true);
        s.due(f::undo, false);
        s.says("One goes back to THE IMAGE: true; false, and nothing happens, if none was kept.");
        f.skill(1, 5);
        s.due(f::back, false);
        s.due(() -> f.person(1, 0), 5);
        s.due(() -> f.count(14), 1);
        f.image();
        s.due(() -> f.count(14), 1);
        f.skill(1, 6);
        s.due(f::back, true);
        s.due(() -> f.person(1, 0), 5);
        s.due(() -> f.count(14), 0);
    }

    private void count() {
        s.says("4 LINES of THE LAW (NONE without one)");
        HoopFair law = new HoopFair();
        s.due(() -> law.count(4), -1);
        s.wrongLaw(law, "far|");
        s.due(() -> law.count(4), -1);
        s.law(law, "", 0);
        s.due(() -> law.count(4), 0);
        s.law(law, Sentences.lines("far 1", 12), 12);
        s.due(() -> law.count(4), 12);
        s.says("14 acts that can be UNDONE. NONE for another what.");
        HoopFair f = Texts.of(SURE + ";knock 2;counts 1;bounce 3");
        s.law(f, "spread 0;far 0", 2);
        f.toss(0, 0, 20, 0, 3);
        f.toss(0, 0, 50, 0, 3);
        f.toss(1, 0, 50, 0, 9);
        f.clear();
        f.toss(1, 0, 50, 0, 9);
        int[] want = {2, 3, 2, 1, 2, 18, 30, 4, 1, 9, 3, 2, 1, 4, 5};
        for (int what = 0; what < want.length; what++) {
            int w = what;
            s.due(() -> f.count(w), want[what]);
        }
        for (int what : new int[] {LEAST, -1, 15, 16, GREATEST}) {
            s.due(() -> f.count(what), -1);
        }
    }

    private void noSuchOne() {
        s.says("IndexOutOfBoundsException: there is no such BLOCK, HOOP, PERSON.");
        String[] texts = {"", "block 20 9 side 2 prize 30;hoop 6 oval 0", "block 20 9 side 2 prize 30;person 9", "hoop 6 oval 0;person 9"};
        for (int missing = 0; missing < texts.length; missing++) {
            HoopFair f = Texts.of(texts[missing]);
            boolean noPerson = missing < 2;
            boolean noHoop = missing % 2 == 0;
            boolean noBlock = missing % 3 == 0;
            Check.Call[] ofAll = {() -> f.ways(0, 0, 20, 0, 3, 0), () -> f.how(0, 0, 20, 0, 0), () -> f.where(0, 0, 0),
                () -> f.large(0, 0, 20, 0), () -> f.arranged(0, 0, 20, 0), () -> f.till(0, 0, 20, 0, 3, 0)};
            dueNone(ofAll, true);
            Check.Call[] thrown = {() -> f.aims(0, 0, 20, 0, 3, 0), () -> f.toss(0, 0, 20, 0, 3), () -> f.worth(0, 0, 20, 0, 3),
                () -> f.ways(0, 0, 20, 0, 3, -1), () -> f.reached(0, 0, 20), () -> f.places(0, 0, -1), () -> f.earns(0, 0, 20),
                () -> f.arranged(0, 0, 20, -1), () -> f.stop(0, 0, 20, 0, 3, true), () -> f.trial(0, 0, 20, 3, 1),
                () -> f.span(0, 0, 20, 3, 1, true)};
            dueNone(thrown, noPerson || noHoop);
            dueNone(new Check.Call[] {() -> f.over(0, 0, 0, 0), () -> f.spots(0, 0)}, noHoop || noBlock);
            dueNone(new Check.Call[] {() -> f.hoop(0, 0), () -> f.wets(0, true), () -> f.comes(0, 20, 9, 0)}, noHoop);
            dueNone(new Check.Call[] {() -> f.block(0, 0), () -> f.move(0, 20, 9), () -> f.narrowest(0, 0), () -> f.led(0, true)}, noBlock);
            dueNone(new Check.Call[] {() -> f.person(0, 0), () -> f.skill(0, 5), () -> f.robbed(0)}, noPerson);
            s.due(() -> f.gap(0, 1), INDEX);
        }
    }

    private void dueNone(Check.Call[] calls, boolean none) {
        for (Check.Call call : calls) {
            s.due(Check.answerOf(call).equals(INDEX), none);
        }
    }

    private void noNumber() {
        s.says("IllegalArgumentException: a number is none (FROM 0 to 59, HEIGHT 0 to 5, PACE 0 to 11), or two are one.");
        HoopFair f = Texts.of(SURE);
        Numbered[] froms = {n -> f.aims(0, 0, n, 0, 3, 0), n -> f.toss(0, 0, n, 0, 3), n -> f.ways(0, 0, n, 0, 3, -1),
            n -> f.worth(0, 0, n, 0, 3), n -> f.how(0, 0, n, 0, 0), n -> f.reached(0, 0, n), n -> f.earns(0, 0, n), n -> f.large(0, 0, n, 0),
            n -> f.arranged(0, 0, n, -1), n -> f.till(0, 0, n, 0, 3, 0), n -> f.stop(0, 0, n, 0, 3, true), n -> f.game(0, n, 1, 0),
            n -> f.trial(0, 0, n, 3, 1), n -> f.span(0, 0, n, 3, 1, true)};
        for (Numbered call : froms) {
            dueBounds(0, 59, ARGUMENT, call);
        }
        Numbered[] heights = {n -> f.aims(0, 0, 20, n, 3, 0), n -> f.toss(0, 0, 20, n, 3), n -> f.ways(0, 0, 20, n, 3, -1),
            n -> f.worth(0, 0, 20, n, 3), n -> f.till(0, 0, 20, n, 3, 0), n -> f.stop(0, 0, 20, n, 3, true)};
        for (Numbered call : heights) {
            dueBounds(0, 5, ARGUMENT, call);
        }
        Numbered[] paces = {n -> f.aims(0, 0, 20, 0, n, 0), n -> f.toss(0, 0, 20, 0, n), n -> f.ways(0, 0, 20, 0, n, -1),
            n -> f.worth(0, 0, 20, 0, n), n -> f.till(0, 0, 20, 0, n, 0), n -> f.stop(0, 0, 20, 0, n, true), n -> f.trial(0, 0, 20, n, 1),
            n -> f.span(0, 0, 20, n, 1, true)};
        for (Numbered call : paces) {
            dueBounds(0, 11, ARGUMENT, call);
        }
        s.due(() -> f.gap(0, 0), ARGUMENT);
    }

    private void toldFirst() {
        s.says("Of several exceptions the one told first is thrown");
        HoopFair f = Texts.of(SURE);
        s.due(() -> f.block(2, 9), INDEX);
        s.due(() -> f.hoop(3, 9), INDEX);
        s.due(() -> f.person(2, 9), INDEX);
        s.due(() -> f.aims(2, 0, 60, 6, 12, 9), INDEX);
        s.due(() -> f.aims(0, 3, 60, 6, 12, 9), INDEX);
        s.due(() -> f.toss(2, 0, 60, 6, 12), INDEX);
        s.due(() -> f.toss(0, 3, 60, 6, 12), INDEX);
        s.due(() -> f.skill(2, 100), INDEX);
        s.due(() -> f.move(2, 60, 40), INDEX);
        s.due(() -> f.move(0, 60, 21), ARGUMENT);
        s.due(() -> f.move(0, 20, 40), ARGUMENT);
        s.due(() -> f.over(3, 0, 61, 61), INDEX);
        s.due(() -> f.over(0, 2, 61, 61), INDEX);
        s.due(() -> f.narrowest(2, 10), INDEX);
        s.due(() -> f.comes(3, 100, 100, 100), INDEX);
        s.due(() -> f.ways(2, 0, 60, 6, 12, 0), INDEX);
        s.due(() -> f.ways(0, 3, 60, 6, 12, 0), INDEX);
        s.due(() -> f.ways(0, 0, 60, 6, 12, 2), INDEX);
        s.due(() -> f.worth(2, 0, 60, 6, 12), INDEX);
        s.due(() -> f.worth(0, 3, 60, 6, 12), INDEX);
        s.due(() -> f.how(2, 0, 60, 0, 9), INDEX);
        s.due(() -> f.how(0, 3, 60, 0, 9), INDEX);
        s.due(() -> f.how(0, 0, 60, 2, 9), INDEX);
        s.due(() -> f.how(0, 0, 60, 0, 9), ARGUMENT);
        s.due(() -> f.reached(2, 0, 60), INDEX);
        s.due(() -> f.reached(0, 3, 60), INDEX);
        s.due(() -> f.earns(2, 0, 60), INDEX);
        s.due(() -> f.earns(0, 3, 60), INDEX);
        s.due(() -> f.large(2, 0, 60, 0), INDEX);
        s.due(() -> f.large(0, 3, 60, 0), INDEX);
        s.due(() -> f.large(0, 0, 60, 2), INDEX);
        s.due(() -> f.arranged(2, 0, 60, -1), INDEX);
        s.due(() -> f.arranged(0, 3, 60, -1), INDEX);
        s.due(() -> f.arranged(0, 0, 60, 2), INDEX);
        s.due(() -> f.till(2, 0, 60, 6, 12, 0), INDEX);
        s.due(() -> f.till(0, 3, 60, 6, 12, 0), INDEX);
        s.due(() -> f.till(0, 0, 60, 6, 12, 2), INDEX);
        s.due(() -> f.stop(2, 0, 60, 6, 12, true), INDEX);
        s.due(() -> f.stop(0, 3, 60, 6, 12, true), INDEX);
        s.due(() -> f.game(2, 60, 0, 9), INDEX);
        s.due(() -> f.game(0, 60, 0, 9), ARGUMENT);
        s.due(() -> f.game(0, 20, 0, 9), STATE);
        s.due(() -> f.gap(2, 2), INDEX);
        s.due(() -> f.trial(2, 0, 60, 12, 41), INDEX);
        s.due(() -> f.trial(0, 3, 60, 12, 41), INDEX);
        s.due(() -> f.span(2, 0, 60, 12, 41, true), INDEX);
        s.due(() -> f.span(0, 3, 60, 12, 41, true), INDEX);
    }

    /** A fair with something of all: BLOCKS, HOOPS, people, a law, throws, acts, THE IMAGE, a fault, a TAPE. */
    private static HoopFair filled() {
        HoopFair f = Texts.of(SURE + ";knock 3;counts 1");
        Texts.law(f, "far 0;strict 1 if wet");
        f.toss(0, 0, 22, 0, 3);
        f.toss(1, 0, 50, 0, 3);
        f.image();
        f.toss(0, 0, 20, 0, 3);
        f.skill(1, 30);
        Texts.fair(f, "price");
        f.feed(1, 2, 3, 4, 5);
        f.end(7);
        return f;
    }

    private void nothingChanges() {
        s.says("a call that throws changes nothing but the TAPE, where it is used up, and fault(), where a text is read");
        HoopFair f = filled();
        String before = State.of(f);
        Check.Call[] calls = {() -> f.block(0, 9), () -> f.hoop(0, 9), () -> f.person(0, 9), () -> f.aims(0, 0, 60, 0, 0, 0),
            () -> f.toss(0, 0, 60, 0, 3), () -> f.toss(0, 0, 20, 6, 3), () -> f.toss(0, 0, 20, 0, 12), () -> f.toss(2, 0, 20, 0, 3),
            () -> f.toss(0, 3, 20, 0, 3), () -> f.wets(3, true), () -> f.skill(0, 100), () -> f.skill(2, 9), () -> f.move(0, 60, 0),
            () -> f.move(0, 20, 20), () -> f.move(2, 1, 1), () -> f.lies(0, 4), () -> f.over(0, 0, 61, 0), () -> f.spots(3, 0),
            () -> f.narrowest(0, 10), () -> f.comes(0, 0, 0, 100), () -> f.ways(0, 0, 20, 0, 3, 2), () -> f.worth(0, 0, 20, 0, 12),
            () -> f.how(0, 0, 20, 0, 3), () -> f.where(0, 0, 2), () -> f.reached(0, 0, 60), () -> f.places(2, 0, 0), () -> f.earns(0, 0, 60),
            () -> f.large(0, 0, 60, 0), () -> f.arranged(0, 0, 60, 0), () -> f.till(0, 0, 60, 0, 0, 0), () -> f.stop(0, 0, 60, 0, 0, true),
            () -> f.game(0, 20, 0, 0), () -> f.game(0, 20, 1, 3), () -> f.near(60, 0, 0), () -> f.gap(0, 0), () -> f.trial(0, 0, 20, 3, 41),
            () -> f.span(0, 0, 20, 3, 41, true), () -> f.robbed(2), () -> f.led(2, true), () -> f.log(0, 6)};
        for (Check.Call call : calls) {
            s.due(Check.answerOf(call).startsWith("throws."), true);
            s.due(() -> State.of(f), before);
        }
        s.due(() -> f.end(7), true);
        s.due(() -> f.end(8), false);
        s.due(f::fault, 5);
        f.end(7);
        s.due(() -> f.gauge(false), ARGUMENT);
        s.due(() -> State.of(f), before);
        s.due(() -> f.end(1), false);
        s.due(f::fault, 5);
        s.due(() -> Texts.law(f, "far 1;far"), ARGUMENT);
        s.due(f::fault, 9);
        s.due(() -> State.of(f), before);
        s.due(() -> Texts.fair(f, "block 1 1 side 1 prize 1;person 5;hoop 5 oval 0;price 1;?"), ARGUMENT);
        s.due(f::fault, 56);
        s.due(() -> State.of(f), before);
        s.due(f::undo, true);
        s.due(f::undo, true);
        s.due(f::back, true);

        // Calls that only ask change nothing either, and not the TAPE.
        HoopFair g = filled();
        String asked = State.of(g);
        g.comes(0, 20, 9, 0);
        g.spots(0, 0);
        g.narrowest(0, 0);
        g.ways(0, 0, 20, 0, 3, 0);
        g.worth(1, 0, 20, 0, 3);
        g.how(1, 0, 20, 0, 0);
        g.where(1, 0, 0);
        g.reached(1, 0, 20);
        g.places(1, 0, 0);
        g.earns(1, 0, 20);
        g.large(1, 0, 20, 0);
        g.arranged(1, 0, 20, 0);
        g.till(1, 0, 20, 0, 3, 0);
        g.stop(1, 0, 20, 0, 3, true);
        g.game(1, 20, 7, 0);
        g.hidden();
        g.near(20, 9, 5);
        g.gap(0, 1);
        g.trial(1, 0, 20, 3, 40);
        g.span(1, 0, 20, 3, 40, true);
        g.robbed(-1);
        g.led(0, true);
        s.due(() -> State.of(g), asked);
        s.due(() -> g.end(7), true);
        s.due(() -> g.end(8), false);
        s.due(g::fault, 5);
    }
}
