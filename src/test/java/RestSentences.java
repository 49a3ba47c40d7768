/** Sentences of the document that only name a thing, or lead to another one: what they say is asked of each call that can tell it. */
final class RestSentences {
    private static final String SURE = "block 20 9 side 2 prize 30;block 20 21 side 4 prize 100 velvet;"
            + "hoop 6 oval 0;hoop 4 oval 2 wet;hoop 3 oval 0;person 99;person 0;price 9";

    private final Sentences s;

    RestSentences(Sentences s) {
        this.s = s;
    }

    void run() {
        none();
        middle();
        whoAndHoop();
        sums();
        fourNumbers();
        howIsOfAll();
        gameIsWorth();
        gaugeIsTried();
        usedUp();
        cannotBe();
        hidden();
        imageIsKept();
        counts();
    }

    private void none() {
        s.says("public static final int NONE = -1;");
        s.due(HoopFair.NONE, -1);
    }

    private void middle() {
        s.says("X, Y of the middle, SIDE 1 to 9");
        HoopFair f = Texts.of("block 30 20 side 5 prize 1;hoop 8 oval 0;person 99;bounce 0");
        // 7 and 5 of 8 are too far: it lies OVER at the middle alone.
        for (int x = 28; x <= 32; x++) {
            for (int y = 18; y <= 22; y++) {
                int atX = x;
                int atY = y;
                s.due(() -> f.comes(0, atX, atY, 0), x == 30 && y == 20 ? 0 : -2);
            }
        }
        s.due(() -> f.near(30, 20, 0), 1);
        s.due(() -> f.near(31, 20, 0), 0);
    }

    private void whoAndHoop() {
        s.says("==== 2. A THROW: a PERSON (who), a HOOP, FROM a place at the rope (X 0 to 59), HEIGHT 0 to 5, PACE 0 to 11;");
        HoopFair f = Texts.of("hoop 6 oval 0;hoop 6 oval 0;hoop 6 oval 0;person 0;person 0");
        s.law(f, "right 1 if who>0;right 2 if hoop>0;right 4 if hoop>1;right 8 if from>9;right 16 if height>3;right 32 if pace>6", 6);
        int[][] want = {{0, 0, 9, 3, 6, 0}, {1, 0, 9, 3, 6, 1}, {0, 1, 9, 3, 6, 2}, {0, 2, 9, 3, 6, 6}, {0, 0, 10, 3, 6, 8},
            {0, 0, 9, 4, 6, 16}, {0, 0, 9, 3, 7, 32}, {1, 2, 59, 5, 11, 63}};
        for (int[] w : want) {
            s.due(() -> f.aims(w[0], w[1], w[2], w[3], w[4], 0), w[2] + w[5]);
            s.due(() -> f.aims(w[0], w[1], w[2], w[3], w[4], 1), 3 * w[4]);
        }
    }

    private void sums() {
        s.says("Of THE LAW: FAR, SHORT, RIGHT, LEFT, SPREAD, STRICT: the sums of N of all such LINES that hold");
        HoopFair f = Texts.of("hoop 6 oval 0;hoop 6 oval 0 wet;person 0");
        s.law(f, "far 1;far 2 if wet;short 4;short 8 if wet;right 16;right 32 if wet;left 3;left 5 if wet;spread 1;spread 2 if wet;"
                + "strict 3;strict 4 if wet", 12);
        int[][] want = {{20 + 16 - 3, 9 + 1 - 4, 1, 3}, {20 + 48 - 8, 9 + 3 - 12, 3, 7}};
        for (int hoop = 0; hoop < 2; hoop++) {
            for (int what = 0; what < 4; what++) {
                int h = hoop;
                int w = what;
                s.due(() -> f.aims(0, h, 20, 0, 3, w), want[hoop][what]);
            }
        }
    }

    /** As the document tells it, corner by corner. */
    private static boolean liesOver(long a, long b, long side, long dx, long dy) {
        boolean over = true;
        for (int signs = 0; signs < 4; signs++) {
            long u = (signs & 1) == 0 ? 2 * dx + side : 2 * dx - side;
            long v = (signs & 2) == 0 ? 2 * dy + side : 2 * dy - side;
            over = over && u * u * b * b + v * v * a * a <= a * a * b * b;
        }
        return over;
    }

    private void fourNumbers() {
        s.says("with its middle DX, DY from a BLOCK's lies OVER it, if each of the four numbers U (2 DX and SIDE, or 2 DX less SIDE) and V"
                + " (2 DY and SIDE, or 2 DY less SIDE) are so,");
        int[][] kinds = {{2, 0}, {2, 1}, {5, 4}, {6, 0}, {7, 3}, {10, 0}, {10, 9}, {13, 5}, {15, 0}, {15, 9}};
        int[] sides = {1, 2, 3, 4, 6, 9};
        for (int[] kind : kinds) {
            for (int side : sides) {
                HoopFair f = Texts.of("block 30 20 side " + side + " prize 1;hoop " + kind[0] + " oval " + kind[1]);
                int wrong = 0;
                // 441 calls of 512.
                for (int dx = -10; dx <= 10; dx++) {
                    for (int dy = -10; dy <= 10; dy++) {
                        wrong += f.over(0, 0, dx, dy) == liesOver(kind[0] - kind[1], kind[0], side, dx, dy) ? 0 : 1;
                    }
                }
                s.due(wrong, 0);
                s.due(() -> f.over(0, 0, 60, -60), false);
                s.due(() -> f.over(0, 0, -60, 60), false);
            }
        }
    }

    private void howIsOfAll() {
        s.says("HOW by a PERSON, a HOOP, FROM a place, at a BLOCK: of all HEIGHTS and PACES the one of the greatest ODDS");
        HoopFair f = Texts.of(SURE);
        s.law(f, "spread 1 if height<3;right 1 if who>0;left 3 if hoop>0;far 60 if from<20", 4);
        for (int person = 0; person < 2; person++) {
            for (int hoop = 0; hoop < 2; hoop++) {
                for (int block = 0; block < 2; block++) {
                    int p = person;
                    int h = hoop;
                    int b = block;
                    HoopFair g = Texts.of(SURE);
                    s.law(g, "spread 1 if height<3;right 1 if who>0;left 3 if hoop>0;far 60 if from<20", 4);
                    int[] best = best(g, person, hoop, block);
                    for (int what = 0; what < 3; what++) {
                        int w = what;
                        s.due(() -> f.how(p, h, 20, b, w), best[what]);
                        s.due(() -> f.how(p, h, 19, b, w), 0);
                    }
                }
            }
        }
    }

    /** By WAYS of each HEIGHT and PACE, of 9 places with a SPREAD of 1, of one with none. */
    private static int[] best(HoopFair f, int person, int hoop, int block) {
        int[] best = new int[3];
        for (int height = 0; height < 6; height++) {
            for (int pace = 0; pace < 12; pace++) {
                int spread = f.aims(person, hoop, 20, height, pace, 2);
                int odds = f.ways(person, hoop, 20, height, pace, block) * 10000 / ((2 * spread + 1) * (2 * spread + 1));
                if (odds > best[0]) {
                    best = new int[] {odds, height, pace};
                }
            }
        }
        return best;
    }

    private void gameIsWorth() {
        s.says("GAME: he gives one of some HOOPS, one aims at some BLOCK without knowing which HOOP it is (PERSON, place): worth ODDS of HOW"
                + " times PRIZE:");
        s.says("GAME of HOOPS (a set) what 0 the most that one is sure of, 1 the least that he is sure of, 2 RESTS.");
        HoopFair f = Texts.of("block 20 9 side 2 prize 7;block 20 15 side 1 prize 13;block 20 21 side 3 prize 4;"
                + "hoop 6 oval 0;hoop 5 oval 1;hoop 4 oval 0;person 0;person 60");
        for (int person = 0; person < 2; person++) {
            int[][] worths = new int[3][3];
            int[] prizes = {7, 13, 4};
            for (int hoop = 0; hoop < 3; hoop++) {
                for (int block = 0; block < 3; block++) {
                    worths[hoop][block] = f.how(person, hoop, 20, block, 0) * prizes[block];
                }
            }
            for (int set = 1; set < 8; set++) {
                int[] want = gameOf(worths, set);
                for (int what = 0; what < 3; what++) {
                    int p = person;
                    int bits = set;
                    int w = what;
                    s.due(() -> f.game(p, 20, bits, w), want[what]);
                }
            }
        }
    }

    private static int[] gameOf(int[][] worths, int set) {
        int won = 0;
        int lost = Integer.MAX_VALUE;
        int rests = 0;
        for (int block = 0; block < 3; block++) {
            won = Math.max(won, leastOf(worths, set, block));
        }
        for (int hoop = 0; hoop < 3; hoop++) {
            if ((set >> hoop & 1) == 0) {
                continue;
            }
            int most = Math.max(worths[hoop][0], Math.max(worths[hoop][1], worths[hoop][2]));
            lost = Math.min(lost, most);
            for (int block = 0; block < 3; block++) {
                rests += worths[hoop][block] == most && worths[hoop][block] == leastOf(worths, set, block) ? 1 : 0;
            }
        }
        return new int[] {won, lost, rests};
    }

    private static int leastOf(int[][] worths, int set, int block) {
        int least = Integer.MAX_VALUE;
        for (int hoop = 0; hoop < 3; hoop++) {
            least = (set >> hoop & 1) == 0 ? least : Math.min(least, worths[hoop][block]);
        }
        return least;
    }

    private void gaugeIsTried() {
        s.says("GAUGE: a HOOP is tried on SIDES: told ones went OVER, or not: KINDS (ACROSS 2 to 15, OVAL 0 to 9 below it) that fit");
        for (int side = 1; side <= 9; side++) {
            for (int other = 1; other <= 9; other++) {
                int fit = 0;
                for (int across = 2; across <= 15; across++) {
                    for (int oval = 0; oval <= 9 && oval < across; oval++) {
                        boolean fits = liesOver(across - oval, across, side, 0, 0) && !liesOver(across - oval, across, other, 0, 0);
                        fit += fits ? 1 : 0;
                    }
                }
                HoopFair f = new HoopFair();
                Sentences.tape(f, side, 1, other, 0);
                s.due(() -> f.gauge(false), fit);
            }
        }
    }

    private void usedUp() {
        s.says("Uses the TAPE up: GAUGE (of each two bytes: SIDE 1 to 9, 1 if it went OVER, or 0)");
        int[][] tapes = {{}, {3, 1}, {3}, {0, 1}, {10, 1}, {3, 2}};
        for (int[] tape : tapes) {
            HoopFair f = new HoopFair();
            s.wrongLaw(f, "far |;");
            Sentences.tape(f, tape);
            boolean right = tape.length == 0 || tape.length == 2 && tape[0] == 3 && tape[1] == 1;
            s.due(Check.answerOf(() -> f.gauge(true)).equals(Sentences.ARGUMENT), !right);
            s.due(() -> f.end(1), false);
            s.due(() -> f.feed(0, 0, 0, 0, 0), 20);
            // It is no text that is read: fault() stays.
            s.due(f::fault, 4);
        }
    }

    private void cannotBe() {
        s.says("IllegalStateException: it cannot be.");
        HoopFair f = Texts.of(SURE);
        s.due(() -> f.move(0, 20, 19), Sentences.STATE);
        s.due(() -> f.move(0, 20, 18), 9);
        s.due(() -> f.game(0, 20, 0, 0), Sentences.STATE);
        HoopFair bare = Texts.of("hoop 6 oval 0;person 0");
        s.due(() -> bare.game(0, 20, 1, 0), Sentences.STATE);
    }

    private void hidden() {
        s.says("`int hidden()`: HIDDEN, as bits.");
        HoopFair f = Texts.of(SURE + ";block 40 0 side 9 prize 0;block 36 39 side 1 prize 0");
        s.due(f::hidden, 2 | 8);
        s.due(() -> f.move(3, 35, 39), 1);
        s.due(f::hidden, 2);
        s.due(() -> f.move(1, 22, 21), 2);
        s.due(f::hidden, 2);
        s.due(() -> f.move(1, 23, 21), 1);
        s.due(f::hidden, 0);
    }

    private void imageIsKept() {
        s.says("`void image()`: THE IMAGE is kept.");
        HoopFair f = Texts.of(SURE);
        f.image();
        f.skill(1, 7);
        f.image();
        f.skill(1, 8);
        s.due(f::back, true);
        s.due(() -> f.person(1, 0), 7);
        f.skill(1, 9);
        s.due(f::back, true);
        s.due(() -> f.person(1, 0), 7);
    }

    private void counts() {
        s.says("0 BLOCKS, 1 HOOPS, 2 PEOPLE, 3 texts of THE FAIR, 4 LINES of THE LAW (NONE without one), 5 TAKEN IN, 6 PAID, 7 throws of all,"
                + " 8 how many LIE, 9 PRICE, 10 BOUNCE, 11 KNOCK, 12 1 if KNOCKED ones count, 13 rows of THE LOG, 14 acts that can be UNDONE.");
        HoopFair f = new HoopFair();
        dueCounts(f, 0, 0, 0, 0, -1, 0, 0, 0, 0, 6, 1, 0, 0, 0, 0);
        Texts.fair(f, SURE);
        dueCounts(f, 2, 3, 2, 1, -1, 0, 0, 0, 0, 9, 1, 0, 0, 0, 0);
        Texts.fair(f, "bounce 2;knock 5;counts 1;price 11");
        s.law(f, "spread 0", 1);
        dueCounts(f, 2, 3, 2, 2, 1, 0, 0, 0, 0, 11, 2, 5, 1, 0, 0);
        f.toss(0, 0, 20, 0, 3);
        dueCounts(f, 2, 3, 2, 2, 1, 11, 30, 1, 0, 11, 2, 5, 1, 1, 1);
        f.toss(1, 0, 22, 0, 0);
        dueCounts(f, 2, 3, 2, 2, 1, 22, 30, 2, 1, 11, 2, 5, 1, 2, 2);
        f.clear();
        dueCounts(f, 2, 3, 2, 2, 1, 22, 30, 2, 0, 11, 2, 5, 1, 2, 3);
        f.undo();
        dueCounts(f, 2, 3, 2, 2, 1, 22, 30, 2, 1, 11, 2, 5, 1, 2, 2);
    }

    private void dueCounts(HoopFair f, int... want) {
        for (int what = 0; what < want.length; what++) {
            int w = what;
            s.due(() -> f.count(w), want[what]);
        }
    }
}
