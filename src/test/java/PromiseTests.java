/** Each promise with ordinary inputs, the edges that the document names, and wrong inputs; all answers reckoned by hand. */
public final class PromiseTests {
    private static final String INDEX = "throws.IndexOutOfBoundsException";
    private static final String ARGUMENT = "throws.IllegalArgumentException";
    private static final String STATE = "throws.IllegalStateException";
    private static final String ELEMENT = "throws.NoSuchElementException";
    private static final String UNSUPPORTED = "throws.UnsupportedOperationException";

    /** Hoop 0 goes over block 0 up to 1 away both ways, and over block 1 at its middle alone; person 0 spreads not. */
    private static final String SURE = "block 20 9 side 2 prize 30;block 20 21 side 4 prize 100 velvet;"
            + "hoop 6 oval 0;hoop 4 oval 2 wet;hoop 3 oval 0;person 99;person 0;price 9";

    private static final Check CHECK = new Check("PromiseTests");

    public static void main(String[] args) {
        newObject();
        feed();
        end();
        fair();
        fairFaults();
        fairBounds();
        law();
        lawFaults();
        lawConditions();
        fault();
        block();
        hoop();
        person();
        aims();
        toss();
        tossSpreads();
        tossKnocks();
        tossMany();
        clear();
        wets();
        skill();
        move();
        lies();
        over();
        spots();
        narrowest();
        comes();
        ways();
        worth();
        how();
        where();
        reached();
        places();
        earns();
        large();
        arranged();
        till();
        stop();
        game();
        gauge();
        hidden();
        near();
        gap();
        trial();
        span();
        robbed();
        led();
        log();
        seed();
        undo();
        image();
        back();
        count();
        CHECK.end();
    }

    private static void due(String what, Check.Call call, Object want) {
        CHECK.dueCall(what, call, want);
    }

    private static void dueCounts(String what, HoopFair f, int... counts) {
        for (int i = 0; i < counts.length; i++) {
            CHECK.due(what + ": count(" + i + ")", f.count(i), counts[i]);
        }
    }

    private static Object wrongFair(HoopFair f, String text) {
        CHECK.due("fair of " + text, Texts.fair(f, text), ARGUMENT);
        return f.fault();
    }

    private static Object wrongLaw(HoopFair f, String text) {
        CHECK.due("law of " + text, Texts.law(f, text), ARGUMENT);
        return f.fault();
    }

    private static String repeat(String line, int many) {
        return (line + ";").repeat(many).substring(0, (line.length() + 1) * many - 1);
    }

    // ---- 1 to 6: texts

    private static void newObject() {
        HoopFair f = new HoopFair();
        dueCounts("1 new", f, 0, 0, 0, 0, -1, 0, 0, 0, 0, 6, 1, 0, 0, 0, 0);
        due("1 seed", () -> f.seed(0), 1);
        due("1 fault", f::fault, -1);
        due("1 back", f::back, false);
        due("1 undo", f::undo, false);
        due("1 hidden", f::hidden, 0);
        due("1 block", () -> f.block(0, 0), INDEX);
    }

    private static void feed() {
        HoopFair f = new HoopFair();
        // "price 5;knock 2" and blanks: the highest byte of each number comes first.
        due("2 feed", () -> f.feed(0x70726963, 0x6520353b, 0x6b6e6f63, 0x6b203220, 0x20202020), 20);
        due("2 fair", f::fair, 1);
        due("2 price", () -> f.count(9), 5);
        due("2 knock", () -> f.count(11), 2);
        for (int i = 1; i <= 20; i++) {
            int n = 20 * i;
            due("2 feed " + n, () -> f.feed(0, -1, 0, 0, 0), n);
        }
        due("2 a 21st", () -> f.feed(0, 0, 0, 0, 0), -1);
        due("2 none came", () -> f.end(401), false);
        due("2 all are there", () -> f.end(400), true);
        due("2 room for 20", () -> f.end(380), true);
        due("2 the last", () -> f.feed(0, 0, 0, 0, 0), 400);
        due("2 cut", () -> f.end(381), true);
        due("2 one short of room", () -> f.feed(0, 0, 0, 0, 0), -1);
        due("2 nothing came", () -> f.end(382), false);
    }

    private static void end() {
        HoopFair f = new HoopFair();
        due("3 end 0 of nothing", () -> f.end(0), true);
        due("3 end 1 of nothing", () -> f.end(1), false);
        f.feed(0x70726963, 0x65203739, 0x20202020, 0x20202020, 0x20202020);
        due("3 below 0", () -> f.end(-1), false);
        due("3 too many", () -> f.end(21), false);
        due("3 least", () -> f.end(Integer.MIN_VALUE), false);
        due("3 all", () -> f.end(20), true);
        due("3 the first 7", () -> f.end(7), true);
        due("3 no longer 8", () -> f.end(8), false);
        due("3 read", f::fair, 1);
        due("3 price 7, without the 9", () -> f.count(9), 7);
        due("3 used up", () -> f.end(1), false);
    }

    private static void fair() {
        HoopFair f = new HoopFair();
        due("4 empty", f::fair, 1);
        due("4 blanks", () -> Texts.fair(f, "    "), 2);
        due("4 blanks between", () -> Texts.fair(f, "  block 1 2  side3 prize 4velvet;hoop15oval 9 wet ; person 7 "), 3);
        dueCounts("4 read", f, 1, 1, 1, 3);
        due("4 side", () -> f.block(0, 2), 3);
        due("4 velvet", () -> f.block(0, 4), 1);
        due("4 oval", () -> f.hoop(0, 1), 9);
        due("4 wet", () -> f.hoop(0, 2), 1);
        due("4 behind it", () -> Texts.fair(f, "block 007 8 side 9 prize 999;price 99;bounce 3;knock 9;counts 1;counts 0"), 4);
        dueCounts("4 more", f, 2, 1, 1, 4, -1, 0, 0, 0, 0, 99, 3, 9, 0);
        due("4 x", () -> f.block(1, 0), 7);
        due("4 wrong", () -> Texts.fair(f, "price 3;block 1 1 side 1 prize 1;counts 1;knock"), ARGUMENT);
        due("4 fault", f::fault, 47);
        dueCounts("4 nothing stays", f, 2, 1, 1, 4, -1, 0, 0, 0, 0, 99, 3, 9, 0);
        for (int i = 5; i <= 12; i++) {
            CHECK.due("4 text " + i, Texts.fair(f, "price " + i), i);
        }
        due("4 wrong ahead of too many", () -> Texts.fair(f, "price"), ARGUMENT);
        due("4 fault of it", f::fault, 5);
        due("4 a 13th", () -> Texts.fair(f, "price 50"), UNSUPPORTED);
        due("4 fault of a 13th", f::fault, -1);
        due("4 a 13th is used up", () -> f.end(1), false);
        due("4 a 13th changes nothing", () -> f.count(9), 12);
        due("4 texts", () -> f.count(3), 12);
    }

    private static void fairFaults() {
        HoopFair f = new HoopFair();
        CHECK.due("4 no word", wrongFair(f, "  9"), 2);
        CHECK.due("4 another word", wrongFair(f, "blocks 1 2 side 1 prize 1"), 0);
        CHECK.due("4 ; alone", wrongFair(f, ";"), 0);
        CHECK.due("4 behind ;", wrongFair(f, "price 5; "), 9);
        CHECK.due("4 two ;", wrongFair(f, "price 5;;price 6"), 8);
        CHECK.due("4 no ;", wrongFair(f, "price 5 price 6"), 8);
        CHECK.due("4 word missing", wrongFair(f, "block 1 2 prize 1"), 10);
        CHECK.due("4 text too short", wrongFair(f, "block 1 2 side 1 prize"), 22);
        CHECK.due("4 blanks count for its length", wrongFair(f, "block 1 2 side  "), 16);
        CHECK.due("4 words run on", wrongFair(f, "block 1 2 side 1 prize 1 velvetside"), 25);
        CHECK.due("4 velvet twice", wrongFair(f, "block 1 2 side 1 prize 1 velvet velvet"), 32);
        CHECK.due("4 a word of the law", wrongFair(f, "far 3"), 0);
        CHECK.due("4 a sign", wrongFair(f, "price -1"), 6);
        CHECK.due("4 a tab is no blank", wrongFair(f, "price\t1"), 5);
        CHECK.due("4 a byte above 127", wrongFair(f, "price 1\u00e9"), 7);
        CHECK.due("4 a capital", wrongFair(f, "Price 1"), 0);
        CHECK.due("4 a 0 byte", wrongFair(f, "price 1;\u0000"), 8);
        CHECK.due("4 4 digits", wrongFair(f, "knock 0001"), 6);
        CHECK.due("4 4 digits that go round", wrongFair(f, "knock 4294967297"), 6);
        CHECK.due("4 15 lines", wrongFair(f, repeat("price 1", 14) + "; price 2"), 113);
        CHECK.due("4 14 lines", Texts.fair(f, repeat("price 1", 14)), 1);
        CHECK.due("4 10 blocks", Texts.fair(f, repeat("block 1 1 side 1 prize 1", 10)), 2);
        CHECK.due("4 an 11th", wrongFair(f, "price 2;  block"), 10);
        CHECK.due("4 8 hoops", Texts.fair(f, repeat("hoop 9 oval 0", 8)), 3);
        CHECK.due("4 a 9th", wrongFair(f, "hoop 9 oval 0"), 0);
        CHECK.due("4 6 people", Texts.fair(f, repeat("person 1", 6)), 4);
        CHECK.due("4 a 7th", wrongFair(f, "person 100"), 0);
        HoopFair g = new HoopFair();
        CHECK.due("4 11 in one", wrongFair(g, repeat("block 1 1 side 1 prize 1", 11)), 250);
        dueCounts("4 none of 11", g, 0, 0, 0, 0);
    }

    private static void fairBounds() {
        String[] right = {"block 0 0 side 1 prize 0", "block 59 39 side 9 prize 999 velvet", "hoop 2 oval 0", "hoop 2 oval 1",
            "hoop 15 oval 9", "person 0", "person 99", "price 0", "price 99", "bounce 0", "bounce 3", "knock 0", "knock 9",
            "counts 0", "counts 1"};
        for (String text : right) {
            CHECK.due("4 " + text, Texts.fair(new HoopFair(), text), 1);
        }
        String[] wrong = {"block |60 0 side 1 prize 0", "block 0 |40 side 1 prize 0", "block 0 0 side |0 prize 0",
            "block 0 0 side |10 prize 0", "block 0 0 side 1 prize |1000", "hoop |1 oval 0", "hoop |16 oval 0", "hoop 4 oval |4",
            "hoop 15 oval |10", "person |100", "price |100", "bounce |4", "knock |10", "counts |2"};
        for (String text : wrong) {
            CHECK.due("4 " + text, wrongFair(new HoopFair(), text.replace("|", "")), text.indexOf('|'));
        }
    }

    private static void law() {
        HoopFair f = Texts.of(SURE);
        due("5 none", () -> f.count(4), -1);
        due("5 two lines", () -> Texts.law(f, "far 2;right 3 if wet"), 2);
        due("5 count", () -> f.count(4), 2);
        due("5 far", () -> f.aims(0, 0, 10, 0, 1, 1), 5);
        due("5 dry", () -> f.aims(0, 0, 10, 0, 1, 0), 10);
        due("5 wet", () -> f.aims(0, 1, 10, 0, 1, 0), 13);
        due("5 in place of the one before", () -> Texts.law(f, "short 1"), 1);
        due("5 short", () -> f.aims(0, 1, 10, 0, 1, 1), 2);
        due("5 wrong", () -> Texts.law(f, "short 1;far"), ARGUMENT);
        due("5 the old one stays", () -> f.aims(0, 1, 10, 0, 1, 1), 2);
        due("5 empty", () -> Texts.law(f, ""), 0);
        due("5 count of empty", () -> f.count(4), 0);
        due("5 spread of an empty one", () -> f.aims(1, 0, 10, 0, 1, 2), 0);
        due("5 blanks", () -> Texts.law(f, "   "), 0);
        due("5 all six", () -> Texts.law(f, "far 60;short 60;right 60;left 60;spread 9;strict 9"), 6);
        due("5 12 lines", () -> Texts.law(f, repeat("far 1", 12)), 12);
        due("5 sums", () -> f.aims(0, 0, 0, 0, 0, 1), 12);
        CHECK.due("5 13 lines", wrongLaw(f, repeat("far 1", 12) + "; spread 1"), 73);
        due("5 used up", () -> f.end(1), false);
    }

    private static void lawFaults() {
        HoopFair f = new HoopFair();
        String[] wrong = {"|fars 1", "|block 1", "|;", "far |61", "short |61", "right |61", "left |61", "spread |10", "strict |10",
            "far 1 |1", "far 1 if |", "far 1 if |wets", "far 1 if wet or wet or|", "far 1 if who|", "far |if wet",
            "far 1 if who |and wet", "far 1 if who < |", "far 1 if who < 1 |< 2", "far 1 if who < 1 + |wet", "far 1 if (wet|",
            "far 1 if wet|)", "far 1 if (|)", "far 1 if |and", "far 1 if not |", "far 1 if who > |1000", "far 1 if who > |0001",
            "far 1 if ((((((|(wet)))))))", "far 1 if not not not not not not |not wet", "far 1 if not (not (not (|(wet))))",
            "far 1 if wet |+ 1 < 2", "far 1 if 1 + who + |", "far 1 if who |= 1", "far 1;|", "far 1; |if", "|if wet", "far 1|!"};
        for (String text : wrong) {
            CHECK.due("5 " + text, wrongLaw(f, text.replace("|", "")), text.indexOf('|'));
        }
        CHECK.due("5 6 deep", Texts.law(f, "far 1 if ((((((wet))))))"), 1);
        CHECK.due("5 6 nots", Texts.law(f, "far 1 if not not not not not not wet"), 1);
        CHECK.due("5 beside one another", Texts.law(f, "far 1 if (not (wet)) and not (not (wet)) or not not not (((wet)))"), 1);
        CHECK.due("5 without blanks", Texts.law(f, "far1if not(who<1)and(pace>999or wet)"), 1);
        due("5 the latest law", () -> f.count(4), 1);
    }

    /** Whether a condition holds: person 1, hoop 1 (wet), from 12, height 3, pace 4, skill 5, throws 0. */
    private static void lawConditions() {
        HoopFair f = Texts.of("person 0;person 5;hoop 5 oval 0;hoop 5 oval 0 wet");
        String[] hold = {"wet", "not not wet", "who<2", "who>0", "hoop<2", "from<13", "from>11", "height>2", "height<4", "pace<5",
            "pace>3", "skill<6", "skill>4", "throws<1", "who+hoop+from+height+pace+skill+throws>25", "25<26", "26>25+0",
            "1>2 or wet", "wet or 1>2 and 1>2", "not (1>2) and wet", "not 1>2 and wet", "not (1>2 and wet)", "(1>2 or wet) and 1<2",
            "3<1+1+1+1", "999>998"};
        String[] not = {"not wet", "who<1", "who>1", "from<12", "from>12", "height<3", "pace>4", "skill>5", "throws>0",
            "who+hoop+from+height+pace+skill+throws>26", "1<1", "1>1", "wet and 1>2", "1>2 or 1>2 or not wet", "(wet or 1<2) and 1>2",
            "not (1>2 or wet)", "not (wet) or not wet", "4<1+1+1+1"};
        for (String condition : hold) {
            CHECK.due("5 " + condition, Texts.law(f, "right 7 if " + condition), 1);
            due("5 holds: " + condition, () -> f.aims(1, 1, 12, 3, 4, 0), 19);
        }
        for (String condition : not) {
            CHECK.due("5 " + condition, Texts.law(f, "right 7 if " + condition), 1);
            due("5 holds not: " + condition, () -> f.aims(1, 1, 12, 3, 4, 0), 12);
        }
    }

    private static void fault() {
        HoopFair f = new HoopFair();
        due("6 ahead of any", f::fault, -1);
        CHECK.due("6 of a fair", wrongFair(f, "price 5;x"), 8);
        due("6 stays", f::fault, 8);
        Texts.tape(f, "\u0001");
        due("6 a gauge is no text", () -> f.gauge(false), ARGUMENT);
        due("6 as it was", f::fault, 8);
        CHECK.due("6 of a law", wrongLaw(f, "x"), 0);
        CHECK.due("6 the latest", Texts.law(f, "far 1"), 1);
        due("6 right", f::fault, -1);
    }

    // ---- 7 to 10: what there is

    private static void block() {
        HoopFair f = Texts.of(SURE);
        int[] want = {20, 21, 4, 100, 1, 1};
        for (int what = 0; what < want.length; what++) {
            int w = what;
            due("7 what " + what, () -> f.block(1, w), want[what]);
        }
        due("7 no velvet", () -> f.block(0, 4), 0);
        due("7 none in front", () -> f.block(0, 5), 0);
        due("7 another what", () -> f.block(0, 6), ELEMENT);
        due("7 below", () -> f.block(0, -1), ELEMENT);
        due("7 no block, asked first", () -> f.block(2, 9), INDEX);
        due("7 NONE", () -> f.block(-1, 0), INDEX);
    }

    private static void hoop() {
        HoopFair f = Texts.of(SURE + ";hoop 15 oval 0;hoop 2 oval 1");
        int[] want = {4, 2, 1, 1};
        for (int what = 0; what < want.length; what++) {
            int w = what;
            due("8 what " + what, () -> f.hoop(1, w), want[what]);
        }
        due("8 widest of 6", () -> f.hoop(0, 3), 4);
        due("8 widest of 3", () -> f.hoop(2, 3), 2);
        due("8 widest is 9 at most", () -> f.hoop(3, 3), 9);
        due("8 widest of none", () -> f.hoop(4, 3), 0);
        due("8 dry", () -> f.hoop(0, 2), 0);
        due("8 another what", () -> f.hoop(0, 4), ELEMENT);
        due("8 no hoop, asked first", () -> f.hoop(5, -1), INDEX);
    }

    private static void person() {
        HoopFair f = Texts.of(SURE);
        f.toss(0, 0, 20, 0, 3);
        f.toss(0, 0, 50, 0, 3);
        f.toss(1, 0, 50, 0, 11);
        due("9 skill is 99 at most", () -> f.person(0, 0), 99);
        due("9 throws", () -> f.person(0, 1), 2);
        due("9 counted", () -> f.person(0, 2), 1);
        due("9 skill grows", () -> f.person(1, 0), 1);
        due("9 another's", () -> f.person(1, 1), 1);
        due("9 counted none", () -> f.person(1, 2), 0);
        due("9 another what", () -> f.person(0, 3), ELEMENT);
        due("9 below", () -> f.person(0, -1), ELEMENT);
        due("9 no person, asked first", () -> f.person(2, 3), INDEX);
    }

    private static void aims() {
        HoopFair f = Texts.of(SURE + ";person 24;person 25;person 49;person 50");
        due("10 x", () -> f.aims(1, 0, 59, 5, 11, 0), 59);
        due("10 y", () -> f.aims(1, 0, 59, 5, 11, 1), 33);
        due("10 spread", () -> f.aims(1, 0, 59, 5, 11, 2), 2);
        due("10 strict", () -> f.aims(1, 0, 59, 5, 11, 3), 0);
        int[] spreads = {0, 2, 2, 1, 1, 0};
        for (int p = 0; p < 6; p++) {
            int who = p;
            due("10 spread of " + p, () -> f.aims(who, 0, 0, 0, 0, 2), spreads[p]);
        }
        Texts.law(f, "spread 9;left 30;short 50;strict 9;strict 8 if height>0");
        int[] fours = {1, 4, 4, 3, 3, 2};
        for (int p = 0; p < 6; p++) {
            int who = p;
            due("10 spread is 4 at most, then less skill, of " + p, () -> f.aims(who, 0, 0, 0, 0, 2), fours[p]);
        }
        due("10 off the cloth by x", () -> f.aims(0, 0, 0, 0, 0, 0), -30);
        due("10 off the cloth by y", () -> f.aims(0, 0, 0, 0, 0, 1), -50);
        due("10 strict of one line", () -> f.aims(0, 0, 0, 0, 0, 3), 9);
        due("10 strict of two lines", () -> f.aims(0, 0, 0, 1, 0, 3), 17);
        due("10 from", () -> f.aims(0, 0, 60, 0, 0, 0), ARGUMENT);
        due("10 from below", () -> f.aims(0, 0, -1, 0, 0, 0), ARGUMENT);
        due("10 height", () -> f.aims(0, 0, 0, 6, 0, 0), ARGUMENT);
        due("10 height below", () -> f.aims(0, 0, 0, -1, 0, 0), ARGUMENT);
        due("10 pace", () -> f.aims(0, 0, 0, 0, 12, 0), ARGUMENT);
        due("10 pace below", () -> f.aims(0, 0, 0, 0, -1, 0), ARGUMENT);
        due("10 what", () -> f.aims(0, 0, 0, 0, 0, 4), ARGUMENT);
        due("10 what below", () -> f.aims(0, 0, 0, 0, 0, -1), ARGUMENT);
        due("10 no person", () -> f.aims(6, 0, 60, 0, 0, 0), INDEX);
        due("10 no hoop", () -> f.aims(0, 3, 60, 0, 0, 0), INDEX);
    }

    // ---- 11 to 16: acts

    private static void toss() {
        HoopFair f = Texts.of(SURE);
        due("11 counts", () -> f.toss(0, 0, 20, 0, 3), 0);
        due("11 a block of velvet", () -> f.toss(0, 0, 20, 5, 7), 1);
        dueCounts("11 paid", f, 2, 3, 2, 1, -1, 9, 130, 2, 0);
        due("11 on the cloth", () -> f.toss(0, 0, 59, 0, 0), -1);
        due("11 a third costs nothing", () -> f.count(5), 9);
        due("11 aslant at velvet, no bounce", () -> f.toss(0, 0, 21, 0, 7), -2);
        due("11 a fourth costs", () -> f.count(5), 18);
        due("11 over block 0 by its edge", () -> f.toss(0, 0, 21, 0, 3), 0);
        due("11 aslant at block 0", () -> f.toss(0, 0, 22, 0, 3), -2);
        due("11 it bounced", () -> f.lies(2, 2), 10);
        due("11 the log has where it landed", () -> f.log(0, 3), 9);
        due("11 a narrow hoop", () -> f.toss(0, 1, 20, 0, 3), -2);
        dueCounts("11 all", f, 2, 3, 2, 1, -1, 27, 160, 7, 4, 9, 1, 0, 0, 7, 7);
        due("11 no person", () -> f.toss(2, 0, 60, 0, 0), INDEX);
        due("11 no hoop", () -> f.toss(0, 3, 60, 0, 0), INDEX);
        due("11 from", () -> f.toss(0, 0, 60, 0, 0), ARGUMENT);
        due("11 height", () -> f.toss(0, 0, 0, 6, 0), ARGUMENT);
        due("11 pace", () -> f.toss(0, 0, 0, 0, 12), ARGUMENT);
        dueCounts("11 nothing changed", f, 2, 3, 2, 1, -1, 27, 160, 7, 4, 9, 1, 0, 0, 7, 7);
        HoopFair g = Texts.of("block 20 10 side 2 prize 1;block 20 14 side 2 prize 2;hoop 6 oval 0;person 99;bounce 2");
        due("11 bounces onto the next", () -> g.toss(0, 0, 20, 0, 4), 1);
        due("11 counted where it came to", () -> g.count(6), 2);
    }

    private static void tossSpreads() {
        HoopFair f = Texts.of(SURE);
        // By SEED 1 the draws are 16838, 5758, 10113, 17515, 31051, 5627, 23010, 7419.
        f.toss(1, 0, 40, 0, 5);
        due("11 x of 16838 modulo 5", () -> f.log(0, 2), 41);
        due("11 y of 5758 modulo 5", () -> f.log(0, 3), 16);
        f.toss(1, 0, 40, 0, 5);
        due("11 x of 10113", () -> f.log(0, 2), 41);
        due("11 y of 17515", () -> f.log(0, 3), 13);
        f.toss(0, 0, 40, 0, 5);
        f.toss(1, 0, 40, 0, 5);
        due("11 drawn also without spread, x", () -> f.log(0, 2), 38);
        due("11 drawn also without spread, y", () -> f.log(0, 3), 17);
    }

    private static final String KNOCKS = "block 20 9 side 2 prize 30;hoop 6 oval 0;person 99;bounce 0;price 0;";

    private static void tossKnocks() {
        HoopFair f = Texts.of(KNOCKS + "knock 3;counts 1");
        due("11 aslant", () -> f.toss(0, 0, 18, 0, 3), -2);
        due("11 the next one", () -> f.toss(0, 0, 17, 0, 3), -2);
        due("11 knocked over the block and paid", () -> f.count(6), 30);
        due("11 taken up", () -> f.count(8), 1);
        due("11 the new one lies", () -> f.lies(0, 1), 17);
        due("11 the log", () -> f.log(0, 5), 0);
        due("11 not a counted one", () -> f.person(0, 2), 0);
        due("11 none was knocked by the first", () -> f.log(1, 5), -1);
        due("11 away along x alone", () -> f.toss(0, 0, 20, 0, 2), -2);
        due("11 17 9 goes to 16 10", () -> f.lies(0, 1), 16);
        due("11 and by y", () -> f.lies(0, 2), 10);
        due("11 it no longer touches", () -> f.lies(0, 3), 0);
        due("11 a block counted knocks none", () -> f.toss(0, 0, 20, 0, 3), 0);
        due("11 20 6 is where it was", () -> f.lies(1, 2), 6);
        due("11 the oldest aslant one, not one that lies flat", () -> f.toss(0, 0, 17, 0, 3), -2);
        due("11 20 6 goes to 21", () -> f.lies(1, 1), 21);
        due("11 and to 5", () -> f.lies(1, 2), 5);
        HoopFair g = Texts.of(KNOCKS + "knock 1");
        g.toss(0, 0, 18, 0, 3);
        g.toss(0, 0, 17, 0, 3);
        due("11 taken up and not paid", () -> g.count(6), 0);
        due("11 taken up", () -> g.count(8), 1);
        due("11 none in the log", () -> g.log(0, 5), -1);
        HoopFair h = Texts.of(KNOCKS + "knock 0;counts 1");
        h.toss(0, 0, 18, 0, 3);
        h.toss(0, 0, 17, 0, 3);
        due("11 no knock", () -> h.count(8), 2);
        HoopFair i = Texts.of(KNOCKS + "knock 2;counts 1");
        i.toss(0, 0, 17, 0, 3);
        i.toss(0, 0, 20, 0, 5);
        due("11 3 away is too far", () -> i.lies(0, 1), 17);
        HoopFair k = Texts.of(KNOCKS + "knock 4");
        k.toss(0, 0, 17, 0, 3);
        k.toss(0, 0, 23, 0, 3);
        k.toss(0, 0, 20, 0, 2);
        due("11 of two the oldest goes", () -> k.lies(0, 1), 16);
        due("11 of two the later one stays", () -> k.lies(1, 1), 23);
        HoopFair l = Texts.of(KNOCKS + "knock 9");
        l.toss(0, 0, 17, 0, 3);
        l.toss(0, 0, 20, 0, 2);
        l.toss(0, 0, 23, 0, 3);
        due("11 17 9 went to 16 10 and is flat; the next is 20 6", () -> l.lies(1, 1), 19);
        due("11 it goes away by y, too", () -> l.lies(1, 2), 5);
        HoopFair j = Texts.of(KNOCKS + "knock 9;counts 1");
        Texts.law(j, "strict 9 if throws>0");
        j.toss(0, 0, 18, 0, 3);
        j.toss(0, 0, 17, 0, 3);
        due("11 by the strict of this throw: not over", () -> j.count(8), 2);
        due("11 but knocked", () -> j.lies(0, 1), 19);
        due("11 and aslant", () -> j.lies(0, 3), 1);
    }

    private static void tossMany() {
        HoopFair f = Texts.of("hoop 5 oval 0;person 99;price 2");
        for (int i = 0; i < 31; i++) {
            f.toss(0, 0, i, 0, 1);
        }
        due("11 30 lie at most", () -> f.count(8), 30);
        due("11 the oldest is taken up", () -> f.lies(0, 1), 1);
        due("11 the latest", () -> f.lies(29, 1), 30);
        due("11 each begun three", () -> f.count(5), 22);
        for (int i = 0; i < 31; i++) {
            f.toss(0, 0, 59 - i, 0, 1);
        }
        due("41 60 rows at most", () -> f.count(13), 60);
        due("41 the oldest row", () -> f.log(59, 2), 2);
        due("41 beyond", () -> f.log(60, 2), -99);
        due("11 throws", () -> f.count(7), 62);
    }

    private static void clear() {
        HoopFair f = Texts.of(SURE);
        due("12 none", f::clear, 0);
        f.toss(0, 0, 50, 0, 0);
        f.toss(0, 0, 40, 0, 0);
        due("12 two", f::clear, 2);
        due("12 gone", () -> f.count(8), 0);
        due("12 acts", () -> f.count(14), 4);
        f.undo();
        due("12 undone", () -> f.lies(1, 1), 40);
    }

    private static void wets() {
        HoopFair f = Texts.of(SURE);
        due("13 wet", () -> f.wets(0, true), true);
        due("13 is", () -> f.hoop(0, 2), 1);
        due("13 again", () -> f.wets(0, true), false);
        due("13 dry", () -> f.wets(1, false), true);
        due("13 is dry", () -> f.hoop(1, 2), 0);
        due("13 acts, also where nothing changed", () -> f.count(14), 3);
        due("13 no hoop", () -> f.wets(3, true), INDEX);
        due("13 no act", () -> f.count(14), 3);
    }

    private static void skill() {
        HoopFair f = Texts.of(SURE);
        due("14 was", () -> f.skill(0, 50), 99);
        due("14 is", () -> f.person(0, 0), 50);
        due("14 again", () -> f.skill(0, 0), 50);
        due("14 99", () -> f.skill(0, 99), 0);
        due("14 100", () -> f.skill(0, 100), ARGUMENT);
        due("14 below 0", () -> f.skill(0, -1), ARGUMENT);
        due("14 no person, asked first", () -> f.skill(2, 100), INDEX);
        due("14 acts", () -> f.count(14), 3);
        due("14 stays", () -> f.person(0, 0), 99);
    }

    private static void move() {
        HoopFair f = Texts.of(SURE);
        due("15 by x", () -> f.move(0, 10, 12), 10);
        due("15 x", () -> f.block(0, 0), 10);
        due("15 y", () -> f.block(0, 1), 12);
        due("15 by y", () -> f.move(0, 11, 0), 12);
        due("15 nowhere", () -> f.move(0, 11, 0), 0);
        due("15 side by side", () -> f.move(0, 17, 21), 21);
        due("15 overlaps", () -> f.move(0, 18, 22), STATE);
        due("15 stays", () -> f.block(0, 0), 17);
        due("15 the corner", () -> f.move(0, 59, 39), 42);
        due("15 x is none", () -> f.move(0, 60, 0), ARGUMENT);
        due("15 y is none", () -> f.move(0, 0, 40), ARGUMENT);
        due("15 below", () -> f.move(0, -1, 0), ARGUMENT);
        due("15 y below", () -> f.move(0, 0, -1), ARGUMENT);
        due("15 no block, asked first", () -> f.move(2, 60, 0), INDEX);
        due("15 acts", () -> f.count(14), 5);
        HoopFair g = Texts.of("block 5 5 side 4 prize 0;block 6 6 side 4 prize 0");
        due("15 where it overlaps already", () -> g.move(0, 5, 5), STATE);
    }

    private static void lies() {
        HoopFair f = Texts.of(SURE);
        due("16 none", () -> f.lies(0, 0), -1);
        f.toss(0, 0, 50, 0, 2);
        f.toss(0, 2, 21, 0, 3);
        int[] first = {0, 50, 6, 0};
        int[] second = {2, 21, 10, 1};
        for (int what = 0; what < 4; what++) {
            int w = what;
            due("16 first, what " + what, () -> f.lies(0, w), first[what]);
            due("16 second, what " + what, () -> f.lies(1, w), second[what]);
        }
        f.move(0, 50, 6);
        due("16 stays so, whatever is moved", () -> f.lies(0, 3), 0);
        due("16 stays aslant", () -> f.lies(1, 3), 1);
        due("16 beyond", () -> f.lies(2, 0), -1);
        due("16 below", () -> f.lies(-1, 0), -1);
        due("16 another what, asked first", () -> f.lies(9, 4), ELEMENT);
        due("16 what below", () -> f.lies(0, -1), ELEMENT);
    }

    // ---- 17 to 20: how a hoop goes over

    private static void over() {
        HoopFair f = Texts.of(SURE + ";hoop 8 oval 3");
        due("17 middle", () -> f.over(0, 0, 0, 0), true);
        due("17 a corner of nine", () -> f.over(0, 0, -1, 1), true);
        due("17 two away", () -> f.over(0, 0, 2, 0), false);
        due("17 block 1", () -> f.over(0, 1, 0, 0), true);
        due("17 block 1, one away", () -> f.over(0, 1, 0, 1), false);
        // A 5, B 8, side 2: (2 DX + 2) squared times 64 and (2 DY + 2) squared times 25 are 1600 at most.
        due("17 oval along x", () -> f.over(3, 0, 1, 0), true);
        due("17 oval along y", () -> f.over(3, 0, 0, 2), true);
        due("17 oval both", () -> f.over(3, 0, 1, 1), true);
        due("17 oval too far", () -> f.over(3, 0, 1, 2), false);
        due("17 oval x 2", () -> f.over(3, 0, 2, 0), false);
        due("17 oval y 3", () -> f.over(3, 0, 0, 3), false);
        due("17 exactly on the rim", () -> Texts.of("block 0 0 side 1 prize 0;hoop 5 oval 0").over(0, 0, 1, 1), true);
        due("17 60", () -> f.over(0, 0, 60, -60), false);
        due("17 61", () -> f.over(0, 0, 61, 0), ARGUMENT);
        due("17 -61", () -> f.over(0, 0, 0, -61), ARGUMENT);
        due("17 no hoop", () -> f.over(4, 0, 61, 0), INDEX);
        due("17 no block", () -> f.over(0, 2, 61, 0), INDEX);
    }

    private static void spots() {
        HoopFair f = Texts.of(SURE + ";block 40 9 side 1 prize 0;hoop 8 oval 3;hoop 15 oval 0");
        due("18 nine", () -> f.spots(0, 0), 9);
        due("18 one", () -> f.spots(0, 1), 1);
        due("18 none", () -> f.spots(1, 0), 0);
        due("18 oval: 3 by 3, and 0 by 2 either way", () -> f.spots(3, 0), 11);
        // Of 15 over 1: (2 DX + 1) squared and (2 DY + 1) squared are 225 at most; none of 7.
        due("18 widest over narrowest", () -> f.spots(4, 2), 145);
        due("18 no hoop", () -> f.spots(5, 0), INDEX);
        due("18 no block", () -> f.spots(0, 3), INDEX);
    }

    private static void narrowest() {
        HoopFair f = Texts.of(SURE + ";block 40 9 side 9 prize 0;block 50 9 side 1 prize 0");
        due("19 side 2, round", () -> f.narrowest(0, 0), 3);
        due("19 side 2, oval 2", () -> f.narrowest(0, 2), 5);
        due("19 side 4, round", () -> f.narrowest(1, 0), 6);
        due("19 side 1, round", () -> f.narrowest(3, 0), 2);
        due("19 side 9, round", () -> f.narrowest(2, 0), 13);
        due("19 side 9, oval 3", () -> f.narrowest(2, 3), 15);
        due("19 side 9, oval 4", () -> f.narrowest(2, 4), -1);
        due("19 above its oval", () -> f.narrowest(3, 9), 11);
        due("19 oval 10", () -> f.narrowest(0, 10), ARGUMENT);
        due("19 oval below", () -> f.narrowest(0, -1), ARGUMENT);
        due("19 no block, asked first", () -> f.narrowest(4, 10), INDEX);
    }

    private static void comes() {
        HoopFair f = Texts.of(SURE);
        due("20 over", () -> f.comes(0, 21, 8, 0), 0);
        due("20 bounces over", () -> f.comes(0, 20, 7, 0), 0);
        due("20 too far to bounce over", () -> f.comes(0, 20, 6, 0), -2);
        due("20 beyond, it bounces off", () -> f.comes(0, 20, 12, 0), -1);
        due("20 aslant", () -> f.comes(0, 22, 9, 0), -2);
        due("20 touches no more", () -> f.comes(0, 24, 9, 0), -1);
        due("20 no bounce at velvet", () -> f.comes(0, 20, 20, 0), -2);
        due("20 velvet, on the edge", () -> f.comes(0, 25, 21, 0), -1);
        due("20 velvet, aslant", () -> f.comes(0, 24, 21, 0), -2);
        // Strict 2: 4 by 4, over side 2 at the middle alone; strict 4: 2 by 2, never.
        due("20 strict, at the middle", () -> f.comes(0, 20, 9, 2), 0);
        due("20 strict, one away", () -> f.comes(0, 21, 9, 2), -2);
        due("20 stricter", () -> f.comes(0, 20, 9, 4), -2);
        due("20 1 at least", () -> f.comes(0, 21, 9, 99), -2);
        due("20 1 at least, touches no more", () -> f.comes(0, 22, 9, 99), -1);
        due("20 off the cloth", () -> f.comes(0, -99, 99, 0), -1);
        due("20 x", () -> f.comes(0, 100, 0, 0), ARGUMENT);
        due("20 y", () -> f.comes(0, 0, -100, 0), ARGUMENT);
        due("20 strict 100", () -> f.comes(0, 0, 0, 100), ARGUMENT);
        due("20 strict below", () -> f.comes(0, 0, 0, -1), ARGUMENT);
        due("20 no hoop, asked first", () -> f.comes(3, 100, 0, 0), INDEX);
        HoopFair g = Texts.of("block 10 10 side 2 prize 1;block 12 10 side 2 prize 2;hoop 6 oval 0");
        due("20 the least such", () -> g.comes(0, 11, 10, 0), 0);
        due("20 the other", () -> g.comes(0, 12, 10, 0), 1);
        HoopFair i = Texts.of("block 20 10 side 9 prize 1;block 20 17 side 1 prize 2;hoop 3 oval 0;person 99;person 0;bounce 3");
        due("20 bounces over one that it did not touch", () -> i.comes(0, 20, 14, 0), 1);
        Texts.law(i, "far 2;spread 2");
        due("21 and has a way so", () -> i.ways(0, 0, 20, 0, 4, 1), 1);
        due("21 of 12 to 16 it has 14", () -> i.ways(1, 0, 20, 0, 4, 1), 1);
        due("21 of 15 to 19 it has 17", () -> i.ways(1, 0, 20, 0, 5, 1), 1);
        Texts.law(i, "far 3;spread 2");
        due("21 of 13 to 17 it has both", () -> i.ways(1, 0, 20, 0, 4, 1), 2);
        HoopFair h = Texts.of("block 5 10 side 2 prize 1;hoop 6 oval 0;bounce 0");
        due("20 bounce 0", () -> h.comes(0, 5, 8, 0), -2);
    }

    // ---- 21 to 32: odds and plans

    private static void ways() {
        HoopFair f = Texts.of(SURE);
        // Person 1 spreads 2: of 5 by 5 the middle 3 by 3, and those that bounce up into them.
        due("21 of block 0", () -> f.ways(1, 0, 20, 0, 3, 0), 12);
        due("21 of block 1, at its middle alone", () -> f.ways(1, 0, 20, 0, 7, 1), 1);
        due("21 of any", () -> f.ways(1, 0, 20, 0, 7, -1), 1);
        due("21 none", () -> f.ways(1, 0, 50, 0, 7, -1), 0);
        due("21 without spread", () -> f.ways(0, 0, 20, 0, 3, -1), 1);
        due("21 no person", () -> f.ways(2, 0, 60, 0, 0, 0), INDEX);
        due("21 no hoop", () -> f.ways(0, 3, 60, 0, 0, 0), INDEX);
        due("21 no block, asked first", () -> f.ways(0, 0, 60, 0, 0, 2), INDEX);
        due("21 -2 is no block", () -> f.ways(0, 0, 0, 0, 0, -2), INDEX);
        due("21 from", () -> f.ways(0, 0, 60, 0, 0, 0), ARGUMENT);
        due("21 height", () -> f.ways(0, 0, 0, 6, 0, -1), ARGUMENT);
        due("21 pace", () -> f.ways(0, 0, 0, 0, 12, -1), ARGUMENT);
    }

    private static void worth() {
        HoopFair f = Texts.of(SURE);
        due("22 30 times 12 by 25", () -> f.worth(1, 0, 20, 0, 3), 1440);
        due("22 100 by 25", () -> f.worth(1, 0, 20, 0, 7), 400);
        due("22 sure", () -> f.worth(0, 0, 20, 0, 3), 3000);
        due("22 nothing", () -> f.worth(0, 0, 50, 0, 3), 0);
        Texts.law(f, "spread 3");
        due("22 rounded down", () -> f.worth(1, 0, 20, 0, 7), 204);
        due("22 no person", () -> f.worth(2, 0, 60, 0, 0), INDEX);
        due("22 no hoop", () -> f.worth(0, -1, 60, 0, 0), INDEX);
        due("22 from", () -> f.worth(0, 0, -1, 0, 0), ARGUMENT);
        due("22 height", () -> f.worth(0, 0, 0, -1, 0), ARGUMENT);
        due("22 pace", () -> f.worth(0, 0, 0, 0, -1), ARGUMENT);
    }

    private static void how() {
        HoopFair f = Texts.of(SURE);
        due("23 odds", () -> f.how(1, 0, 20, 0, 0), 4800);
        due("23 height", () -> f.how(1, 0, 20, 0, 1), 0);
        due("23 pace", () -> f.how(1, 0, 20, 0, 2), 3);
        due("23 nothing", () -> f.how(1, 0, 50, 0, 0), 0);
        due("23 nothing, the least pace", () -> f.how(1, 0, 50, 0, 2), 0);
        Texts.law(f, "far 1;spread 0;short 1 if height>2;right 1 if height<3");
        due("23 a height", () -> f.how(1, 0, 20, 1, 1), 3);
        due("23 its pace", () -> f.how(1, 0, 20, 1, 2), 7);
        due("23 its odds", () -> f.how(1, 0, 20, 1, 0), 10000);
        due("23 another what", () -> f.how(0, 0, 20, 0, 3), ELEMENT);
        due("23 from, asked ahead", () -> f.how(0, 0, 60, 0, 3), ARGUMENT);
        due("23 no block, asked first", () -> f.how(0, 0, 60, 2, 3), INDEX);
        due("23 NONE is no block", () -> f.how(0, 0, 60, -1, 3), INDEX);
        due("23 no hoop", () -> f.how(0, 3, 60, 0, 3), INDEX);
        due("23 no person", () -> f.how(-1, 0, 60, 0, 3), INDEX);
    }

    private static void where() {
        HoopFair f = Texts.of(SURE);
        due("24 of several the least", () -> f.where(0, 0, 0), 19);
        due("24 at its middle", () -> f.where(0, 0, 1), 20);
        due("24 spread: 17 to 21 has all three, too", () -> f.where(1, 0, 0), 19);
        due("24 none", () -> f.where(0, 1, 0), -1);
        due("24 no person", () -> f.where(2, 0, 0), INDEX);
        due("24 no hoop", () -> f.where(0, 3, 0), INDEX);
        due("24 no block", () -> f.where(0, 0, -1), INDEX);
    }

    private static void reached() {
        HoopFair f = Texts.of(SURE);
        due("25 both", () -> f.reached(0, 0, 20), 3);
        due("25 one", () -> f.reached(0, 0, 21), 1);
        due("25 none", () -> f.reached(0, 0, 22), 0);
        due("25 by spread", () -> f.reached(1, 0, 22), 3);
        due("25 too narrow", () -> f.reached(1, 1, 20), 0);
        due("25 from", () -> f.reached(0, 0, 60), ARGUMENT);
        due("25 no person", () -> f.reached(2, 0, 60), INDEX);
        due("25 no hoop", () -> f.reached(0, 3, 60), INDEX);
    }

    private static void places() {
        String one = "hoop 6 oval 0;person 99;block 10 9 side 2 prize 1;block 12 12 side 2 prize 1";
        HoopFair f = Texts.of(one);
        due("26 one place", () -> f.places(0, 0, -1), 1);
        due("26 it", () -> f.places(0, 0, 0), 11);
        due("26 no second", () -> f.places(0, 0, 1), -1);
        due("26 no such k", () -> f.places(0, 0, -2), -1);
        Texts.fair(f, "block 30 9 side 2 prize 1;block 40 9 side 2 prize 1");
        due("26 three", () -> f.places(0, 0, -1), 3);
        due("26 first", () -> f.places(0, 0, 0), 11);
        due("26 second", () -> f.places(0, 0, 1), 29);
        due("26 third", () -> f.places(0, 0, 2), 39);
        Texts.fair(f, "block 20 9 side 2 prize 1;block 50 9 side 2 prize 1;block 55 9 side 2 prize 1");
        due("26 six", () -> f.places(0, 0, -1), 6);
        due("26 the sixth", () -> f.places(0, 0, 5), 54);
        Texts.fair(f, "block 5 9 side 9 prize 1");
        due("26 one that none reaches counts for nothing", () -> f.places(0, 0, -1), 6);
        Texts.fair(f, "block 3 30 side 2 prize 1");
        due("26 seven are too many", () -> f.places(0, 0, -1), -1);
        due("26 nor is there a first", () -> f.places(0, 0, 0), -1);
        HoopFair g = Texts.of("hoop 6 oval 0;person 99");
        due("26 nothing is reached", () -> g.places(0, 0, -1), 0);
        due("26 no first", () -> g.places(0, 0, 0), -1);
        due("26 no person", () -> g.places(1, 0, 0), INDEX);
        due("26 no hoop", () -> g.places(0, 1, 0), INDEX);
    }

    private static void earns() {
        HoopFair f = Texts.of(SURE);
        due("27 300 less 10000", () -> f.earns(0, 0, 20), -9700);
        due("27 300 less 3000", () -> f.earns(0, 0, 21), -2700);
        due("27 300", () -> f.earns(0, 0, 50), 300);
        Texts.fair(f, "price 7");
        due("27 rounded down", () -> f.earns(0, 0, 50), 233);
        due("27 from", () -> f.earns(0, 0, 60), ARGUMENT);
        due("27 no person", () -> f.earns(2, 0, 60), INDEX);
        due("27 no hoop", () -> f.earns(0, 3, 60), INDEX);
    }

    private static void large() {
        HoopFair f = Texts.of("block 20 9 side 2 prize 30;block 40 9 side 2 prize 3;block 50 9 side 2 prize 4;"
                + "hoop 6 oval 0;hoop 15 oval 0;person 99;price 9");
        due("28 5 is never over", () -> f.large(0, 0, 20, 0), 5);
        due("28 exactly enough", () -> f.large(0, 0, 40, 1), 1);
        due("28 a little too much", () -> f.large(0, 0, 50, 2), 5);
        due("28 one away is over 3, not over 4", () -> f.large(0, 0, 51, 2), 4);
        due("28 none", () -> f.large(0, 1, 20, 0), -1);
        due("28 its side stays", () -> f.block(0, 2), 2);
        due("28 no act", () -> f.count(14), 0);
        due("28 from", () -> f.large(0, 0, 60, 0), ARGUMENT);
        due("28 no block", () -> f.large(0, 0, 60, 3), INDEX);
        due("28 NONE is no block", () -> f.large(0, 0, 60, -1), INDEX);
        due("28 no person", () -> f.large(1, 0, 60, 0), INDEX);
        due("28 no hoop", () -> f.large(0, 2, 60, 0), INDEX);
    }

    private static void arranged() {
        HoopFair f = Texts.of("block 20 9 side 2 prize 100;block 40 9 side 2 prize 30;block 20 15 side 2 prize 50;"
                + "hoop 6 oval 0;person 99");
        due("29 the sum", () -> f.arranged(0, 0, 20, -1), 800000);
        due("29 block 0", () -> f.arranged(0, 0, 20, 0), 1);
        due("29 block 1", () -> f.arranged(0, 0, 20, 1), 0);
        due("29 block 2", () -> f.arranged(0, 0, 20, 2), 2);
        due("29 all the same: nothing", () -> f.arranged(0, 0, 55, -1), 0);
        due("29 the first way", () -> f.arranged(0, 0, 55, 0), 0);
        due("29 the first way, the last", () -> f.arranged(0, 0, 55, 2), 2);
        due("29 prizes stay", () -> f.block(0, 3), 100);
        due("29 from", () -> f.arranged(0, 0, 60, 0), ARGUMENT);
        due("29 no block", () -> f.arranged(0, 0, 60, 3), INDEX);
        due("29 no person", () -> f.arranged(1, 0, 60, -1), INDEX);
        due("29 no hoop", () -> f.arranged(0, 1, 60, -1), INDEX);
        due("29 without blocks", () -> Texts.of("hoop 6 oval 0;person 0").arranged(0, 0, 0, -1), 0);
    }

    private static void till() {
        HoopFair f = Texts.of(SURE + ";person 24");
        due("30 sure", () -> f.till(0, 0, 20, 0, 3, 0), 1);
        due("30 4800 each", () -> f.till(1, 0, 20, 0, 3, 0), 3);
        due("30 4800, then skill grows", () -> f.till(2, 0, 20, 0, 3, 0), 2);
        due("30 never", () -> f.till(0, 0, 50, 0, 3, 0), -1);
        Texts.law(f, "spread 4");
        // 25 of 123, 25 of 204, then 400 each.
        due("30 of 81, of 49, of 25 places", () -> f.till(1, 0, 20, 0, 7, 1), 55);
        Texts.law(f, "right 9 if throws<199");
        due("30 the 200th", () -> f.till(0, 0, 20, 0, 3, 0), 200);
        Texts.law(f, "right 9 if throws<200");
        due("30 not the 201st", () -> f.till(0, 0, 20, 0, 3, 0), -1);
        due("30 throws stay", () -> f.count(7), 0);
        due("30 from", () -> f.till(0, 0, 60, 0, 0, 0), ARGUMENT);
        due("30 height", () -> f.till(0, 0, 0, 6, 0, 0), ARGUMENT);
        due("30 pace", () -> f.till(0, 0, 0, 0, 12, 0), ARGUMENT);
        due("30 no block", () -> f.till(0, 0, 60, 0, 0, 2), INDEX);
        due("30 NONE is no block", () -> f.till(0, 0, 60, 0, 0, -1), INDEX);
        due("30 no person", () -> f.till(3, 0, 60, 0, 0, 0), INDEX);
        due("30 no hoop", () -> f.till(0, 3, 60, 0, 0, 0), INDEX);
    }

    private static void stop() {
        HoopFair f = Texts.of(SURE);
        due("31 never", () -> f.stop(0, 0, 20, 0, 3, false), 60);
        due("31 60 of 3000 less 20 of 900", () -> f.stop(0, 0, 20, 0, 3, true), 162000);
        due("31 at once", () -> f.stop(0, 0, 50, 0, 3, false), 0);
        due("31 nothing", () -> f.stop(0, 0, 50, 0, 3, true), 0);
        Texts.law(f, "right 9 if throws>3");
        due("31 behind the fourth", () -> f.stop(0, 0, 20, 0, 3, false), 4);
        due("31 12000 less 1800", () -> f.stop(0, 0, 20, 0, 3, true), 10200);
        f.toss(0, 0, 20, 0, 3);
        due("31 threes are counted from the first of these", () -> f.stop(0, 0, 20, 0, 3, true), 8100);
        due("31 behind the third", () -> f.stop(0, 0, 20, 0, 3, false), 3);
        Texts.law(f, "right 9 if throws>4");
        due("31 four of 3000 less two begun threes", () -> f.stop(0, 0, 20, 0, 3, true), 10200);
        HoopFair g = Texts.of("block 20 9 side 2 prize 3;hoop 6 oval 0;person 99;price 9");
        due("31 of several the least", () -> g.stop(0, 0, 20, 0, 3, false), 0);
        due("31 from", () -> f.stop(0, 0, 60, 0, 0, true), ARGUMENT);
        due("31 height", () -> f.stop(0, 0, 0, 6, 0, true), ARGUMENT);
        due("31 pace", () -> f.stop(0, 0, 0, 0, 12, true), ARGUMENT);
        due("31 no person", () -> f.stop(2, 0, 60, 0, 0, true), INDEX);
        due("31 no hoop", () -> f.stop(0, 3, 60, 0, 0, true), INDEX);
    }

    private static void game() {
        HoopFair f = Texts.of(SURE);
        // Hoop 0: 300000, 1000000; hoop 1: 0, 0; hoop 2: 300000, 0.
        int[][] want = {{1, 1000000, 1000000, 1}, {2, 0, 0, 2}, {4, 300000, 300000, 1}, {5, 300000, 300000, 1}, {3, 0, 0, 2},
            {-1, 0, 0, 2}, {-8 | 1, 1000000, 1000000, 1}};
        for (int[] row : want) {
            for (int what = 0; what < 3; what++) {
                int w = what;
                due("32 set " + row[0] + " what " + what, () -> f.game(0, 20, row[0], w), row[what + 1]);
            }
        }
        HoopFair g = Texts.of("block 20 9 side 2 prize 10;block 20 15 side 4 prize 10;hoop 6 oval 0;hoop 3 oval 0;person 99");
        due("32 two rests", () -> g.game(0, 20, 1, 2), 2);
        Texts.law(g, "far 1 if hoop<1");
        due("32 sure of nothing", () -> g.game(0, 19, 3, 0), 0);
        due("32 no hoop in the set", () -> f.game(0, 20, 0, 3), STATE);
        due("32 none that is there", () -> f.game(0, 20, 8, 0), STATE);
        due("32 no block", () -> Texts.of("hoop 6 oval 0;person 9").game(0, 20, 1, 0), STATE);
        due("32 another what", () -> f.game(0, 20, 1, 3), ELEMENT);
        due("32 from, asked ahead", () -> f.game(0, 60, 0, 3), ARGUMENT);
        due("32 no person, asked first", () -> f.game(2, 60, 0, 3), INDEX);
        HoopFair h = Texts.of("block 20 9 side 2 prize 10;block 20 15 side 2 prize 20;hoop 6 oval 0;hoop 6 oval 0 wet;person 99");
        Texts.law(h, "right 5 if wet and pace<5;right 5 if not wet and pace>4");
        // Hoop 0: 100000 or 0; hoop 1: 0 or 200000: no pair rests.
        due("32 the most that one is sure of", () -> h.game(0, 20, 3, 0), 0);
        due("32 the least that he is sure of", () -> h.game(0, 20, 3, 1), 100000);
        due("32 no rest", () -> h.game(0, 20, 3, 2), 0);
    }

    private static Object gaugeOf(HoopFair f, boolean next, int... bytes) {
        byte[] tape = new byte[bytes.length];
        for (int i = 0; i < bytes.length; i++) {
            tape[i] = (byte) bytes[i];
        }
        Texts.tape(f, tape);
        return Check.answerOf(() -> f.gauge(next));
    }

    private static void gauge() {
        HoopFair f = new HoopFair();
        CHECK.due("33 none told", gaugeOf(f, false), 104);
        CHECK.due("33 not over 1", gaugeOf(f, false, 1, 0), 9);
        CHECK.due("33 of these none parts, the least", gaugeOf(f, true, 1, 0), 1);
        CHECK.due("33 over 9", gaugeOf(f, false, 9, 1), 8);
        CHECK.due("33 over 9 and not over 1", gaugeOf(f, false, 9, 1, 1, 0), 0);
        CHECK.due("33 next of none", gaugeOf(f, true, 9, 1, 1, 0), -1);
        CHECK.due("33 told twice", gaugeOf(f, false, 9, 1, 9, 1), 8);
        // Over 1 and not over 2 are 4 by 2 and 2 by 2 and their like: A is 2, or both are below 2.83.
        CHECK.due("33 over 1, not over 2", gaugeOf(f, false, 1, 1, 2, 0), 10);
        CHECK.due("33 odd", gaugeOf(f, false, 1, 1, 2), ARGUMENT);
        CHECK.due("33 used up also then", f.end(1), false);
        CHECK.due("33 side 0", gaugeOf(f, false, 0, 1), ARGUMENT);
        CHECK.due("33 side 10", gaugeOf(f, true, 10, 1), ARGUMENT);
        CHECK.due("33 side 255", gaugeOf(f, true, 255, 1), ARGUMENT);
        CHECK.due("33 told 2", gaugeOf(f, true, 9, 2), ARGUMENT);
        CHECK.due("33 told 255", gaugeOf(f, true, 9, 255), ARGUMENT);
        CHECK.due("33 next of all", gaugeOf(f, true), nextOfAll());
        CHECK.due("33 used up", f.end(1), false);
    }

    /** With the numbers of its sides reckoned by doubles: a side's half diagonal against the oval. */
    private static int nextOfAll() {
        int best = -1;
        int least = 105;
        for (int side = 1; side <= 9; side++) {
            int goes = 0;
            for (int across = 2; across <= 15; across++) {
                for (int oval = 0; oval < Math.min(10, across); oval++) {
                    double u = side / (double) (across - oval);
                    double v = side / (double) across;
                    goes += u * u + v * v <= 1.0000001 ? 1 : 0;
                }
            }
            int part = Math.max(goes, 104 - goes);
            if (part < least) {
                least = part;
                best = side;
            }
        }
        return best;
    }

    // ---- 34 to 36: where blocks stand

    private static void hidden() {
        HoopFair f = Texts.of("block 20 9 side 2 prize 0;block 21 20 side 3 prize 0;block 24 30 side 4 prize 0;block 23 9 side 4 prize 0");
        due("34 hidden", f::hidden, 6);
        due("7 in front of 1: 0 and 3", () -> f.block(1, 5), 9);
        due("7 in front of 2: 1 is 3 away, of 3.5; 3; not 0", () -> f.block(2, 5), 10);
        due("7 as far away from the rope is not in front", () -> f.block(3, 5), 0);
        due("34 none", () -> Texts.of("block 20 9 side 2 prize 0;block 22 20 side 2 prize 0").hidden(), 0);
        due("34 no blocks", () -> new HoopFair().hidden(), 0);
    }

    private static void near() {
        HoopFair f = Texts.of(SURE);
        due("35 at it", () -> f.near(20, 9, 0), 1);
        due("35 12 away", () -> f.near(20, 9, 12), 3);
        due("35 11 away", () -> f.near(20, 9, 11), 1);
        due("35 by x too", () -> f.near(8, 21, 12), 3);
        due("35 none", () -> f.near(7, 21, 12), 0);
        due("35 all", () -> f.near(59, 39, 60), 3);
        due("35 x", () -> f.near(60, 0, 0), ARGUMENT);
        due("35 y", () -> f.near(0, 40, 0), ARGUMENT);
        due("35 below", () -> f.near(-1, 0, 0), ARGUMENT);
        due("35 y below", () -> f.near(0, -1, 0), ARGUMENT);
        due("35 n", () -> f.near(0, 0, 61), ARGUMENT);
        due("35 n below", () -> f.near(0, 0, -1), ARGUMENT);
    }

    private static void gap() {
        HoopFair f = Texts.of(SURE + ";block 23 8 side 3 prize 0;block 24 9 side 1 prize 0");
        due("36 by y", () -> f.gap(0, 1), 18);
        due("36 the other way", () -> f.gap(1, 0), 18);
        due("36 by x, doubled", () -> f.gap(0, 2), 1);
        due("36 overlap", () -> f.gap(2, 3), -2);
        due("36 both are one", () -> f.gap(1, 1), ARGUMENT);
        due("36 no block", () -> f.gap(0, 4), INDEX);
        due("36 no block, asked first", () -> f.gap(4, 4), INDEX);
    }

    // ---- 37 to 42: trials, the log, the seed

    private static void trial() {
        HoopFair f = Texts.of(SURE);
        due("37 none", () -> f.trial(0, 0, 20, 3, 0), 0);
        due("37 all", () -> f.trial(0, 0, 20, 3, 40), 40);
        // Person 1 lands 1 1, 1 -2 (and bounces to -1), -1 0, -2 2 away, by SEED 1.
        due("37 three", () -> f.trial(1, 0, 20, 3, 3), 3);
        due("37 three of four", () -> f.trial(1, 0, 20, 3, 4), 3);
        due("37 nothing stays", () -> f.count(7) + f.count(13) + f.count(14) + f.count(8), 0);
        due("37 the seed stays", () -> f.seed(1), 1);
        Texts.fair(f, "bounce 0");
        due("37 two without bounce", () -> f.trial(1, 0, 20, 3, 3), 2);
        due("37 n", () -> f.trial(0, 0, 20, 3, 41), ARGUMENT);
        due("37 n below", () -> f.trial(0, 0, 20, 3, -1), ARGUMENT);
        due("37 from", () -> f.trial(0, 0, 60, 3, 1), ARGUMENT);
        due("37 pace", () -> f.trial(0, 0, 20, 12, 1), ARGUMENT);
        due("37 no person", () -> f.trial(2, 0, 60, 3, 1), INDEX);
        due("37 no hoop", () -> f.trial(0, 3, 60, 3, 1), INDEX);
        Texts.law(f, "right 30 if height<2;right 30 if height>2");
        due("37 by height 2", () -> f.trial(0, 0, 20, 3, 5), 5);
        HoopFair g = Texts.of(KNOCKS + "knock 3;counts 1");
        Texts.law(g, "left 1 if throws>0");
        due("37 a knocked one counts, too", () -> g.trial(0, 0, 18, 3, 2), 1);
    }

    private static void span() {
        HoopFair f = Texts.of(SURE);
        due("38 sure, fewest", () -> f.span(0, 0, 20, 3, 40, false), 40);
        due("38 sure, most", () -> f.span(0, 0, 20, 3, 40, true), 40);
        boolean differ = false;
        for (int n = 0; n <= 40; n++) {
            int fewest = 99;
            int most = 0;
            for (int seed = 1; seed <= 6; seed++) {
                f.seed(seed);
                int counted = f.trial(1, 0, 20, 3, n);
                fewest = Math.min(fewest, counted);
                most = Math.max(most, counted);
            }
            differ |= fewest < most;
            f.seed(77);
            CHECK.due("38 fewest of " + n, f.span(1, 0, 20, 3, n, false), fewest);
            CHECK.due("38 most of " + n, f.span(1, 0, 20, 3, n, true), most);
        }
        CHECK.due("38 they differ", differ, true);
        due("38 the seed stays", () -> f.seed(1), 77);
        due("38 nothing stays", () -> f.count(7), 0);
        due("38 none", () -> f.span(1, 0, 20, 3, 0, true), 0);
        due("38 n", () -> f.span(0, 0, 20, 3, 41, true), ARGUMENT);
        due("38 n below", () -> f.span(0, 0, 20, 3, -1, true), ARGUMENT);
        due("38 from", () -> f.span(0, 0, 60, 3, 1, true), ARGUMENT);
        due("38 pace", () -> f.span(0, 0, 20, -1, 1, true), ARGUMENT);
        due("38 no person", () -> f.span(2, 0, 60, 3, 1, true), INDEX);
        due("38 no hoop", () -> f.span(0, 3, 60, 3, 1, true), INDEX);
    }

    private static void robbed() {
        HoopFair f = Texts.of(SURE);
        due("39 none", () -> f.robbed(-1), 0);
        Texts.law(f, "strict 9");
        due("39 aslant by strict", () -> f.toss(0, 0, 20, 0, 3), -2);
        f.toss(0, 0, 50, 0, 3);
        f.toss(1, 0, 20, 0, 3);
        due("39 of all", () -> f.robbed(-1), 2);
        due("39 of one", () -> f.robbed(0), 1);
        due("39 of the other", () -> f.robbed(1), 1);
        f.move(0, 50, 9);
        due("39 as blocks are now", () -> f.robbed(0), 1);
        due("39 not the one at 20 any more", () -> f.robbed(1), 0);
        Texts.law(f, "");
        f.toss(0, 0, 50, 0, 3);
        due("39 one that counted was not robbed", () -> f.robbed(0), 1);
        f.clear();
        due("39 whether it lies yet or not", () -> f.robbed(0), 1);
        HoopFair g = Texts.of(KNOCKS + "bounce 1");
        Texts.law(g, "strict 9;short 2");
        due("39 lands at 20 7", () -> g.toss(0, 0, 20, 0, 3), -1);
        due("39 by strict 0 it would have bounced over", () -> g.robbed(-1), 1);
        Texts.fair(g, "bounce 0");
        due("39 by BOUNCE as it is now", () -> g.robbed(-1), 0);
        due("39 no person", () -> f.robbed(2), INDEX);
        due("39 -2", () -> f.robbed(-2), INDEX);
    }

    private static void led() {
        HoopFair f = Texts.of(KNOCKS + "knock 3;counts 1;block 40 9 side 2 prize 5");
        due("40 none", () -> f.led(0, false), 0);
        due("40 no latest", () -> f.led(0, true), -1);
        f.toss(0, 0, 20, 0, 3);
        f.toss(0, 0, 40, 0, 3);
        f.toss(0, 0, 18, 0, 3);
        due("40 one", () -> f.led(0, false), 1);
        due("40 two ago", () -> f.led(0, true), 2);
        f.toss(0, 0, 17, 0, 3);
        due("40 a knocked one, too", () -> f.led(0, false), 2);
        due("40 the latest", () -> f.led(0, true), 0);
        due("40 of the other", () -> f.led(1, true), 2);
        due("40 no block", () -> f.led(2, true), INDEX);
        due("40 NONE", () -> f.led(-1, false), INDEX);
    }

    private static void log() {
        HoopFair f = Texts.of(SURE);
        due("41 none", () -> f.log(0, 0), -99);
        f.toss(0, 2, 22, 0, 3);
        f.toss(1, 1, 50, 0, 3);
        int[] first = {0, 2, 22, 9, -2, -1};
        int[] second = {1, 1, 50 - 2 + 10113 % 5, 9 - 2 + 17515 % 5, -1, -1};
        for (int what = 0; what < 6; what++) {
            int w = what;
            due("41 one ago, what " + what, () -> f.log(1, w), first[what]);
            due("41 the latest, what " + what, () -> f.log(0, w), second[what]);
        }
        due("41 beyond", () -> f.log(2, 0), -99);
        due("41 below", () -> f.log(-1, 0), -99);
        due("41 the least", () -> f.log(Integer.MIN_VALUE, 0), -99);
        due("41 the greatest", () -> f.log(Integer.MAX_VALUE, 0), -99);
        due("41 another what, asked first", () -> f.log(9, 6), ELEMENT);
        due("41 what below", () -> f.log(0, -1), ELEMENT);
    }

    private static void seed() {
        HoopFair f = Texts.of(SURE);
        due("42 was 1", () -> f.seed(-5), 1);
        due("42 was -5", () -> f.seed(1), -5);
        f.toss(0, 0, 50, 0, 3);
        int once = 1103515245 + 12345;
        due("42 two draws on", () -> f.seed(0), 1103515245 * once + 12345);
        due("42 no act", () -> f.count(14), 1);
        // By SEED 0: 12345 lies below bit 16; the next has its bits 16 to 30 without its sign.
        f.toss(1, 0, 30, 0, 3);
        due("42 x by 0", () -> f.log(0, 2), 28);
        due("42 y by 12345", () -> f.log(0, 3), 9 - 2 + ((1103515245 * 12345 + 12345) >> 16 & 32767) % 5);
    }

    // ---- 43 to 46: what is kept

    private static void undo() {
        HoopFair f = Texts.of(SURE);
        due("43 none", f::undo, false);
        f.toss(0, 0, 20, 0, 3);
        f.toss(1, 0, 30, 0, 3);
        f.seed(9);
        due("43 a throw", f::undo, true);
        dueCounts("43 as ahead of it", f, 2, 3, 2, 1, -1, 9, 30, 1, 0, 9, 1, 0, 0, 1, 1);
        due("43 skill too", () -> f.person(1, 0), 0);
        int once = 1103515245 + 12345;
        due("43 and the seed", () -> f.seed(1), 1103515245 * once + 12345);
        f.move(0, 1, 1);
        f.wets(0, true);
        f.skill(0, 1);
        f.clear();
        for (int i = 0; i < 4; i++) {
            due("43 back " + i, f::undo, true);
        }
        due("43 block", () -> f.block(0, 0), 20);
        due("43 hoop", () -> f.hoop(0, 2), 0);
        due("43 person", () -> f.person(0, 0), 99);
        due("43 the first throw", f::undo, true);
        due("43 no more", f::undo, false);
        for (int i = 0; i < 13; i++) {
            f.skill(0, i);
        }
        due("43 12 are remembered", () -> f.count(14), 12);
        for (int i = 0; i < 12; i++) {
            due("43 of 12, " + i, f::undo, true);
        }
        due("43 the thirteenth is not", f::undo, false);
        due("43 as behind the first of 13", () -> f.person(0, 0), 0);
        f.skill(0, 7);
        Texts.fair(f, "price");
        due("43 a wrong text lets them be", () -> f.count(14), 1);
        Texts.fair(f, "price 1");
        due("43 a text of the fair: none are remembered", f::undo, false);
        f.skill(0, 8);
        Texts.law(f, "far 1");
        due("43 a law: none are remembered", f::undo, false);
        f.skill(0, 9);
        f.feed(1, 2, 3, 4, 5);
        f.image();
        f.undo();
        due("43 the tape stays", () -> f.end(20), true);
        due("43 the image stays", f::back, true);
        due("43 as it was kept", () -> f.person(0, 0), 9);
    }

    private static void image() {
        HoopFair f = Texts.of(SURE);
        f.toss(0, 0, 20, 0, 3);
        f.image();
        f.toss(1, 0, 20, 0, 3);
        f.image();
        f.skill(0, 3);
        due("44 the latest one", f::back, true);
        due("44 two throws", () -> f.count(7), 2);
        due("44 skill", () -> f.person(0, 0), 99);
        due("44 is kept on", f::back, true);
        HoopFair g = new HoopFair();
        g.image();
        Texts.fair(g, SURE);
        due("44 of nothing", g::back, true);
        dueCounts("44 nothing", g, 0, 0, 0, 0, -1, 0, 0, 0, 0, 6, 1, 0, 0, 0, 0);
        due("44 no act", () -> g.count(14), 0);
    }

    private static void back() {
        HoopFair f = Texts.of(SURE);
        due("45 none was kept", f::back, false);
        Texts.law(f, "far 2");
        f.toss(0, 0, 50, 0, 2);
        f.seed(44);
        f.image();
        due("45 acts stay with the image", () -> f.count(14), 1);
        Texts.law(f, "far 3;far 4");
        Texts.fair(f, "price 50;bounce 3;knock 4;counts 1;block 1 1 side 1 prize 1");
        f.move(0, 2, 30);
        f.wets(0, true);
        f.toss(0, 0, 40, 0, 2);
        CHECK.due("45 a fault", wrongFair(f, "?"), 0);
        f.feed(1, 2, 3, 4, 5);
        due("45 back", f::back, true);
        dueCounts("45 all", f, 2, 3, 2, 1, 1, 9, 0, 1, 1, 9, 1, 0, 0, 1, 0);
        due("45 block", () -> f.block(0, 1), 9);
        due("45 hoop", () -> f.hoop(0, 2), 0);
        due("45 law", () -> f.aims(0, 0, 10, 0, 1, 1), 5);
        due("45 log", () -> f.log(0, 2), 50);
        due("45 lies", () -> f.lies(0, 2), 8);
        due("45 seed", () -> f.seed(44), 44);
        due("45 the fault stays", f::fault, 0);
        due("45 the tape stays", () -> f.end(20), true);
        due("45 none are remembered", f::undo, false);
        f.skill(0, 5);
        f.back();
        due("45 again", () -> f.person(0, 0), 99);
    }

    private static void count() {
        HoopFair f = Texts.of(SURE + ";knock 2;counts 1;bounce 3");
        Texts.law(f, "spread 0;far 0");
        f.toss(0, 0, 20, 0, 3);
        f.toss(0, 0, 50, 0, 3);
        f.toss(1, 0, 50, 0, 9);
        f.clear();
        f.toss(1, 0, 50, 0, 9);
        dueCounts("46", f, 2, 3, 2, 1, 2, 18, 30, 4, 1, 9, 3, 2, 1, 4, 5);
        due("46 another", () -> f.count(15), -1);
        due("46 below", () -> f.count(-1), -1);
        due("46 the least", () -> f.count(Integer.MIN_VALUE), -1);
    }
}
