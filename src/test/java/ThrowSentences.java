/** What the document says of a throw, of what comes of it, of acts and of THE LOG (==== 2. of "Terms"). */
final class ThrowSentences {
    /**
     * HOOP 0 goes over BLOCK 0 up to 1 away both ways, and over BLOCK 1, of VELVET, at its middle alone. Person 0 spreads
     * not, person 1 spreads 2.
     */
    private static final String SURE = "block 20 9 side 2 prize 30;block 20 21 side 4 prize 100 velvet;"
            + "hoop 6 oval 0;hoop 4 oval 2 wet;hoop 3 oval 0;person 99;person 0;price 9";
    /** As SURE, with BLOCK 0 alone and without BOUNCE. */
    private static final String KNOCKS = "block 20 9 side 2 prize 30;hoop 6 oval 0;person 99;bounce 0;price 0;";

    private final Sentences s;

    ThrowSentences(Sentences s) {
        this.s = s;
    }

    void run() {
        aThrow();
        factsOfTheLaw();
        sumsOfTheLaw();
        aimed();
        spread();
        lands();
        oneAtLeast();
        over();
        touches();
        leastBlock();
        bounces();
        askedOnceMore();
        aslant();
        staysSo();
        takenIn();
        draws();
        counts();
        lies();
        knockNeeds();
        knockedOne();
        knockedAway();
        knockedAsked();
        grows();
        acts();
        log();
        logRows();
    }

    private void aThrow() {
        s.says("FROM a place at the rope (X 0 to 59), HEIGHT 0 to 5, PACE 0 to 11;");
        HoopFair f = Texts.of(SURE);
        s.due(() -> f.aims(0, 0, 0, 0, 0, 0), 0);
        s.due(() -> f.aims(0, 0, 59, 5, 11, 0), 59);
        s.due(() -> f.aims(0, 0, 59, 5, 11, 1), 33);
        s.due(() -> f.toss(0, 0, 0, 0, 0), -1);
        s.due(() -> f.toss(0, 0, 59, 5, 11), -1);
        int[][] wrong = {{-1, 0, 0}, {60, 0, 0}, {0, -1, 0}, {0, 6, 0}, {0, 0, -1}, {0, 0, 12}, {Integer.MIN_VALUE, 0, 0},
            {0, Integer.MAX_VALUE, 0}, {0, 0, Integer.MIN_VALUE}};
        for (int[] w : wrong) {
            s.due(() -> f.aims(0, 0, w[0], w[1], w[2], 0), Sentences.ARGUMENT);
            s.due(() -> f.toss(0, 0, w[0], w[1], w[2]), Sentences.ARGUMENT);
        }
    }

    private void factsOfTheLaw() {
        s.says("throws: how many that PERSON threw so far; skill: SKILL; wet: of the HOOP.");
        HoopFair f = Texts.of(SURE);
        s.law(f, "right 1 if throws>1;right 10 if skill>1;right 20 if wet", 3);
        s.due(() -> f.aims(1, 0, 0, 0, 0, 0), 0);
        f.toss(1, 0, 0, 0, 0);
        f.toss(1, 0, 0, 0, 0);
        // Two throws, and the SKILL of 2 that came of them.
        s.due(() -> f.aims(1, 0, 0, 0, 0, 0), 11);
        s.due(() -> f.aims(0, 0, 0, 0, 0, 0), 10);
        s.due(() -> f.aims(0, 1, 0, 0, 0, 0), 30);
        f.wets(1, false);
        s.due(() -> f.aims(0, 1, 0, 0, 0, 0), 10);
        f.skill(0, 1);
        s.due(() -> f.aims(0, 1, 0, 0, 0, 0), 0);
        f.undo();
        f.undo();
        f.undo();
        s.due(() -> f.aims(1, 1, 0, 0, 0, 0), 20);
    }

    private void sumsOfTheLaw() {
        s.says("the sums of N of all such LINES that hold (0 each without a text, but SPREAD 2).");
        HoopFair f = Texts.of(SURE);
        dueAims(f, 10, 0, 2, 0);
        s.law(f, "far 60;far 1 if wet;far 50;short 3;short 4;right 60;right 60 if height<1;left 2;left 3;strict 9;strict 9;strict 5 if wet", 12);
        dueAims(f, 10 + 120 - 5, 110 - 7, 0, 18);
        s.law(f, "spread 1;spread 2;spread 9 if wet", 3);
        dueAims(f, 10, 0, 3, 0);
        s.law(f, "spread 3 if wet", 1);
        dueAims(f, 10, 0, 0, 0);
        s.law(f, "", 0);
        dueAims(f, 10, 0, 0, 0);
        f.image();
        HoopFair g = Texts.of(SURE);
        g.image();
        s.law(g, "spread 0", 1);
        dueAims(g, 10, 0, 0, 0);
        g.back();
        dueAims(g, 10, 0, 2, 0);
    }

    private void dueAims(HoopFair f, int... want) {
        for (int what = 0; what < want.length; what++) {
            int w = what;
            s.due(() -> f.aims(1, 0, 10, 0, 0, w), want[what]);
        }
    }

    private void aimed() {
        s.says("AIMED: X is FROM and RIGHT less LEFT, Y is 3 times PACE and FAR less SHORT.");
        HoopFair f = Texts.of(SURE);
        s.law(f, "right 7;left 20;far 2;short 40", 4);
        s.due(() -> f.aims(0, 0, 0, 0, 0, 0), -13);
        s.due(() -> f.aims(0, 0, 0, 0, 0, 1), -38);
        s.due(() -> f.aims(0, 0, 59, 0, 11, 0), 46);
        s.due(() -> f.aims(0, 0, 59, 0, 11, 1), -5);
        s.law(f, "right 60;far 60", 2);
        s.due(() -> f.aims(0, 0, 59, 0, 11, 0), 119);
        s.due(() -> f.aims(0, 0, 59, 0, 11, 1), 93);
    }

    private void spread() {
        s.says("SPREAD as it counts: 4 at most, less SKILL by 25, rounded down; 0 at least.");
        HoopFair f = Texts.of("hoop 2 oval 0;person 0");
        int[] skills = {0, 24, 25, 49, 50, 74, 75, 99};
        int[][] want = {{0, 0, 0, 0, 0, 0, 0, 0}, {1, 1, 0, 0, 0, 0, 0, 0}, {2, 2, 1, 1, 0, 0, 0, 0}, {3, 3, 2, 2, 1, 1, 0, 0},
            {4, 4, 3, 3, 2, 2, 1, 1}, {4, 4, 3, 3, 2, 2, 1, 1}, {4, 4, 3, 3, 2, 2, 1, 1}};
        int[] spreads = {0, 1, 2, 3, 4, 5, 9};
        for (int i = 0; i < spreads.length; i++) {
            s.law(f, "spread " + spreads[i], 1);
            for (int k = 0; k < skills.length; k++) {
                f.skill(0, skills[k]);
                s.due(() -> f.aims(0, 0, 0, 0, 0, 2), want[i][k]);
            }
        }
        s.law(f, "spread 9;spread 9;spread 9", 3);
        s.due(() -> f.aims(0, 0, 0, 0, 0, 2), 1);
    }

    private void lands() {
        s.says("It LANDS at an X up to so many INCHES less or more than AIMED, a Y likewise: each of these places is as likely as the"
                + " others (off THE CLOTH, too).");
        // Over it up to 6 away along either axis: of 2 at most to either side all count, also below 0.
        HoopFair f = Texts.of("block 0 0 side 1 prize 10;block 59 33 side 1 prize 10;hoop 15 oval 0;person 0;person 25;bounce 0");
        s.due(() -> f.ways(0, 0, 0, 0, 0, 0), 25);
        s.due(() -> f.ways(1, 0, 0, 0, 0, 0), 9);
        s.due(() -> f.ways(0, 0, 59, 0, 11, 1), 25);
        s.law(f, "spread 4", 1);
        // Of 15: (2 DX + 1) squared and (2 DY + 1) squared are 225 at most: of 4 by 4 all.
        s.due(() -> f.ways(0, 0, 0, 0, 0, 0), 81);
        s.law(f, "spread 4;left 8;short 1", 3);
        // X -12 to -4: of -6 those up to 3 by Y, of -5 those up to 4, of -4 those up to 5; Y is -5 to 3.
        s.due(() -> f.ways(0, 0, 0, 0, 0, 0), 7 + 8 + 9);
        s.law(f, "spread 0", 1);
        s.due(() -> f.ways(0, 0, 0, 0, 0, -1), 1);
        landsAtTheCorners();
        HoopFair g = Texts.of("hoop 2 oval 0;person 0");
        s.law(g, "spread 1;left 5;short 5", 3);
        int[] seen = new int[9];
        for (int i = 0; i < 60; i++) {
            g.skill(0, 0);
            g.toss(0, 0, 0, 0, 0);
            int x = g.log(0, 2) + 6;
            int y = g.log(0, 3) + 6;
            s.due(x >= 0 && x <= 2 && y >= 0 && y <= 2, true);
            seen[Math.floorMod(3 * x + y, 9)]++;
        }
        for (int many : seen) {
            s.due(many > 0, true);
        }
    }

    /** Each place counts as it would by itself, also beyond each side of THE CLOTH. */
    private void landsAtTheCorners() {
        HoopFair f = Texts.of("block 0 0 side 1 prize 1;block 59 0 side 1 prize 1;block 0 39 side 1 prize 1;block 59 39 side 1 prize 1;"
                + "hoop 15 oval 0;person 0;person 49;bounce 3");
        for (int away = 0; away <= 12; away += 2) {
            s.law(f, "spread 4;left " + away + " if from<30;right " + away + " if from>30;short " + away + " if pace<6;far " + (6 + away)
                    + " if pace>6", 5);
            for (int from = 0; from <= 59; from += 59) {
                for (int pace = 0; pace <= 11; pace += 11) {
                    for (int person = 0; person < 2; person++) {
                        int place = from;
                        int step = pace;
                        int who = person;
                        s.due(() -> f.ways(who, 0, place, 0, step, -1), counted(f, who, place, step));
                    }
                }
            }
        }
    }

    private static int counted(HoopFair f, int person, int from, int pace) {
        int counted = 0;
        int spread = f.aims(person, 0, from, 0, pace, 2);
        for (int dx = -spread; dx <= spread; dx++) {
            for (int dy = -spread; dy <= spread; dy++) {
                int x = f.aims(person, 0, from, 0, pace, 0) + dx;
                int y = f.aims(person, 0, from, 0, pace, 1) + dy;
                counted += f.comes(0, x, y, 0) >= 0 ? 1 : 0;
            }
        }
        return counted;
    }

    private void oneAtLeast() {
        s.says("a HOOP of A along X (ACROSS less OVAL less STRICT, 1 at least) and B along Y (ACROSS less STRICT, 1 at least)");
        HoopFair f = Texts.of("block 20 20 side 1 prize 1 velvet;block 40 20 side 2 prize 1 velvet;hoop 8 oval 3");
        // A is 5, B is 8: TOUCHES up to 2 by X, up to 4 by Y.
        dueTouches(f, 0, 2, 4);
        dueTouches(f, 1, 2, 3);
        dueTouches(f, 3, 1, 2);
        dueTouches(f, 4, 0, 2);
        dueTouches(f, 6, 0, 1);
        dueTouches(f, 7, 0, 0);
        dueTouches(f, 8, 0, 0);
        dueTouches(f, 99, 0, 0);
        // Of 1 by 1 at a SIDE of 2: 2 DX of 2 is less than 3.
        for (int strict : new int[] {7, 8, 9, 99}) {
            s.due(() -> f.comes(0, 41, 19, strict), -2);
            s.due(() -> f.comes(0, 42, 20, strict), -1);
            s.due(() -> f.comes(0, 40, 22, strict), -1);
        }
        // By B of 2 it goes over nothing, as A is 1; by A of 3 and B of 6 over a SIDE of 2 (4 by 36 and 4 by 9 are 324 at most).
        s.due(() -> f.comes(0, 40, 20, 2), 1);
        s.due(() -> f.comes(0, 40, 20, 3), -2);
        s.due(() -> f.comes(0, 20, 20, 4), -2);
        s.due(() -> f.comes(0, 20, 20, 3), 0);
        s.due(() -> f.comes(0, 20, 20, 99), -2);
    }

    /** BLOCK 0 is at 20 20. */
    private void dueTouches(HoopFair f, int strict, int byX, int byY) {
        s.due(() -> f.comes(0, 20 + byX + 1, 20, strict), -1);
        s.due(() -> f.comes(0, 20 - byX - 1, 20, strict), -1);
        s.due(() -> f.comes(0, 20, 20 + byY + 1, strict), -1);
        s.due(() -> f.comes(0, 20, 20 - byY - 1, strict), -1);
        s.due(() -> f.comes(0, 20 + byX, 20 - byY, strict) != -1, true);
        s.due(() -> f.comes(0, 20 - byX, 20 + byY, strict) != -1, true);
    }

    private void over() {
        s.says("are so, that U times U times B times B and V times V times A times A, together, are A times A times B times B at most.");
        HoopFair f = Texts.of("block 20 20 side 2 prize 1;block 40 20 side 1 prize 0;hoop 10 oval 0;hoop 15 oval 5;hoop 5 oval 0");
        // 6 and 8 of 10: exactly; 8 and 8: too far.
        for (int by = -1; by <= 1; by += 2) {
            int sign = by;
            s.due(() -> f.over(0, 0, 2 * sign, 3), true);
            s.due(() -> f.over(0, 0, 2, 3 * sign), true);
            s.due(() -> f.over(0, 0, 3 * sign, 2), true);
            s.due(() -> f.over(0, 0, 3 * sign, -3), false);
            s.due(() -> f.over(0, 0, 4 * sign, 0), false);
            s.due(() -> f.over(0, 0, 0, 4 * sign), false);
            // 6 of 10 and 12 of 15: exactly; either one farther: not.
            s.due(() -> f.over(1, 0, 2 * sign, 5), true);
            s.due(() -> f.over(1, 0, -2, 5 * sign), true);
            s.due(() -> f.over(1, 0, 3 * sign, 5), false);
            s.due(() -> f.over(1, 0, 2, 6 * sign), false);
            s.due(() -> f.over(1, 0, 5 * sign, 2), false);
            s.due(() -> f.over(2, 1, sign, -1), true);
            s.due(() -> f.over(2, 1, 2 * sign, 0), false);
        }
        s.due(() -> f.comes(0, 22, 23, 0), 0);
        s.due(() -> f.comes(0, 23, 23, 0), -2);
        s.due(() -> f.comes(1, 18, 25, 0), 0);
        s.due(() -> f.comes(0, 18, 25, 0), -1);
    }

    private void touches() {
        s.says("It TOUCHES a BLOCK, if 2 DX is less than A and SIDE, and 2 DY less than B and SIDE (without their signs).");
        // A is 5 and B is 8, of a SIDE of 4: up to 4 by X (8 of 9), up to 5 by Y (10 of 12; 12 is not less).
        HoopFair f = Texts.of("block 20 20 side 4 prize 1 velvet;hoop 8 oval 3;hoop 6 oval 0");
        for (int by = -1; by <= 1; by += 2) {
            int sign = by;
            s.due(() -> f.comes(0, 20 + 4 * sign, 20 + 5 * sign, 0), -2);
            s.due(() -> f.comes(0, 20 + 4 * sign, 20 - 5 * sign, 0), -2);
            s.due(() -> f.comes(0, 20 + 5 * sign, 20, 0), -1);
            s.due(() -> f.comes(0, 20, 20 + 6 * sign, 0), -1);
            s.due(() -> f.comes(0, 20 + 5 * sign, 20 + 6 * sign, 0), -1);
            // Of 6 and 4: 2 DX of 10 is not less.
            s.due(() -> f.comes(1, 20 + 4 * sign, 20, 0), -2);
            s.due(() -> f.comes(1, 20 + 5 * sign, 20, 0), -1);
            s.due(() -> f.comes(1, 20, 20 + 4 * sign, 0), -2);
            s.due(() -> f.comes(1, 20, 20 + 5 * sign, 0), -1);
        }
    }

    private void leastBlock() {
        s.says("OVER some BLOCK: it COUNTS (for the least such)");
        HoopFair f = Texts.of("block 10 10 side 2 prize 1;block 12 10 side 2 prize 2;block 11 11 side 2 prize 3;hoop 6 oval 0;person 99");
        s.due(() -> f.comes(0, 11, 10, 0), 0);
        s.due(() -> f.comes(0, 12, 10, 0), 1);
        s.due(() -> f.comes(0, 12, 12, 0), 2);
        s.law(f, "far 1", 1);
        s.due(() -> f.toss(0, 0, 11, 0, 3), 0);
        s.due(() -> f.count(6), 1);
        s.due(() -> f.ways(0, 0, 11, 0, 3, 0), 1);
        s.due(() -> f.ways(0, 0, 11, 0, 3, 1), 0);
        s.due(() -> f.ways(0, 0, 11, 0, 3, 2), 0);
        s.due(() -> f.ways(0, 0, 11, 0, 3, -1), 1);
        f.move(0, 40, 30);
        f.move(1, 50, 30);
        s.due(() -> f.comes(0, 11, 10, 0), 2);
        // The last of ten, where it TOUCHES all the others.
        HoopFair ten = Texts.of(Sentences.lines("block 20 20 side 9 prize 1", 9) + ";block 20 20 side 1 prize 7;hoop 6 oval 0;person 99");
        s.due(() -> ten.comes(0, 20, 20, 0), 9);
        s.law(ten, "short 1", 1);
        s.due(() -> ten.ways(0, 0, 20, 0, 7, 9), 1);
        s.due(() -> ten.toss(0, 0, 20, 0, 7), 9);
        s.due(() -> ten.count(6), 7);
        s.due(() -> ten.led(9, false), 1);
    }

    private void bounces() {
        s.says("else, if it TOUCHES some BLOCK that has no VELVET, it BOUNCES: its Y is BOUNCE more");
        String rest = "hoop 6 oval 0;person 99;";
        HoopFair hard = Texts.of("block 20 20 side 2 prize 1;" + rest + "bounce 3");
        s.due(() -> hard.comes(0, 20, 16, 0), -1);
        s.due(() -> hard.comes(0, 20, 17, 0), 0);
        s.due(() -> hard.comes(0, 20, 18, 0), 0);
        s.due(() -> hard.comes(0, 20, 19, 0), 0);
        s.due(() -> hard.comes(0, 20, 22, 0), -1);
        s.due(() -> hard.comes(0, 22, 21, 0), -1);
        HoopFair soft = Texts.of("block 20 20 side 2 prize 1 velvet;" + rest + "bounce 3");
        s.due(() -> soft.comes(0, 20, 17, 0), -2);
        s.due(() -> soft.comes(0, 20, 18, 0), -2);
        s.due(() -> soft.comes(0, 20, 22, 0), -2);
        HoopFair none = Texts.of("block 20 20 side 2 prize 1;" + rest + "bounce 0");
        s.due(() -> none.comes(0, 20, 18, 0), -2);
        s.due(() -> none.comes(0, 20, 22, 0), -2);
        // It touches both: the hard one makes it bounce, over the one of velvet.
        HoopFair both = Texts.of("block 20 20 side 2 prize 1 velvet;block 24 18 side 2 prize 2;" + rest + "bounce 2");
        s.due(() -> both.comes(0, 21, 17, 0), 0);
        s.due(() -> both.comes(0, 20, 17, 0), -2);
        both.toss(0, 0, 21, 0, 5);
        s.due(() -> both.lies(0, 2), 17);
        both.toss(0, 0, 21, 0, 6);
        s.due(() -> both.lies(0, 2), 17);
        both.toss(0, 0, 22, 0, 6);
        s.due(() -> both.lies(1, 2), 20);
    }

    private void askedOnceMore() {
        s.says("it is asked once more whether it is OVER; if it is not, it lies there");
        HoopFair f = Texts.of("block 20 20 side 2 prize 1;block 20 24 side 2 prize 2;hoop 6 oval 0;person 99");
        s.law(f, "short 1", 1);
        // 17 to 18, and no more to 19, over BLOCK 0.
        s.due(() -> f.toss(0, 0, 20, 0, 6), -2);
        s.due(() -> f.lies(0, 2), 18);
        // 22 to 23, over BLOCK 1 that it did not touch by BOUNCE.
        s.due(() -> f.comes(0, 20, 22, 0), 1);
        s.due(() -> f.comes(0, 23, 22, 0), -2);
    }

    private void aslant() {
        s.says("it lies there: ASLANT (if it TOUCHES some BLOCK there), or on THE CLOTH");
        HoopFair f = Texts.of("block 20 21 side 2 prize 1;block 30 21 side 2 prize 2 velvet;block 30 26 side 1 prize 2;hoop 6 oval 0;"
                + "person 99;bounce 3");
        // 24 to 27: it touches no more where it comes to.
        s.due(() -> f.toss(0, 0, 20, 0, 8), -1);
        s.due(() -> f.lies(0, 3), 0);
        s.due(() -> f.lies(0, 2), 27);
        // 21 to 24: it still touches there.
        s.due(() -> f.toss(0, 0, 22, 0, 7), -2);
        s.due(() -> f.lies(1, 2), 24);
        s.due(() -> f.lies(1, 3), 1);
        s.law(f, "short 1", 1);
        // No bounce at velvet, and aslant at it.
        s.due(() -> f.toss(0, 0, 32, 0, 7), -2);
        s.due(() -> f.lies(2, 3), 1);
        s.due(() -> f.lies(2, 2), 20);
        // 23 touches the hard one at 26; at 26 it is over it.
        s.due(() -> f.toss(0, 0, 30, 0, 8), 2);
        HoopFair g = Texts.of("block 20 21 side 2 prize 1;block 23 23 side 2 prize 2 velvet;hoop 6 oval 0;person 99;bounce 1");
        // 18 to 19, and beside the middle: it touches the one of velvet, and the hard one, there.
        s.due(() -> g.comes(0, 18, 21, 0), -2);
        s.due(() -> g.comes(0, 21, 24, 0), -2);
        g.move(1, 40, 23);
        s.due(() -> g.comes(0, 21, 24, 0), -1);
    }

    private void staysSo() {
        s.says("and stays so, whatever BLOCKS are moved later.");
        HoopFair f = Texts.of(SURE + ";knock 9;counts 1");
        s.due(() -> f.toss(0, 0, 22, 0, 3), -2);
        s.due(() -> f.toss(0, 0, 50, 0, 3), -1);
        f.move(0, 50, 9);
        s.due(() -> f.lies(0, 3), 1);
        s.due(() -> f.lies(1, 3), 0);
        // The one that lies flat is not knocked, though a BLOCK is beneath it now; the aslant one is, far from all.
        f.move(0, 50, 8);
        s.due(() -> f.toss(0, 0, 54, 0, 3), -1);
        s.due(() -> f.lies(1, 1), 50);
        s.due(() -> f.toss(0, 0, 25, 0, 3), -1);
        s.due(() -> f.lies(0, 1), 21);
        s.due(() -> f.lies(0, 3), 0);
    }

    private void takenIn() {
        s.says("if that PERSON's throws are a multiple of 3, PRICE is TAKEN IN.");
        HoopFair f = Texts.of("hoop 2 oval 0;person 99;person 99;price 7");
        int[] who = {0, 0, 0, 1, 0, 1, 1, 1, 0, 0, 0};
        int[] taken = {7, 7, 7, 14, 21, 21, 21, 28, 28, 28, 35};
        for (int i = 0; i < who.length; i++) {
            f.toss(who[i], 0, 30, 0, 0);
            s.due(() -> f.count(5), taken[i]);
        }
        Texts.fair(f, "price 50");
        f.toss(1, 0, 30, 0, 0);
        s.due(() -> f.count(5), 35);
        f.toss(1, 0, 30, 0, 0);
        f.toss(1, 0, 30, 0, 0);
        s.due(() -> f.count(5), 85);
    }

    private static int next(int seed) {
        return 1103515245 * seed + 12345;
    }

    private static int drawn(int seed, int spread) {
        return (seed >> 16 & 32767) % (2 * spread + 1) - spread;
    }

    private void draws() {
        s.says("It LANDS: X is AIMED less SPREAD and DRAW modulo (2 SPREAD and 1), then Y likewise (drawn also if SPREAD is 0).");
        HoopFair f = Texts.of("hoop 2 oval 0;person 0;person 99");
        int seed = 1;
        for (int spread = 0; spread <= 4; spread++) {
            s.law(f, "spread " + spread, 1);
            for (int i = 0; i < 5; i++) {
                f.skill(0, 0);
                f.toss(i == 2 ? 1 : 0, 0, 30, 0, 5);
                int width = i == 2 ? Math.max(0, spread - 3) : spread;
                seed = next(seed);
                s.due(() -> f.log(0, 2), 30 + drawn(seed, width));
                seed = next(seed);
                s.due(() -> f.log(0, 3), 15 + drawn(seed, width));
            }
        }
        s.due(() -> f.seed(0), seed);

        s.says("DRAW: SEED is 1103515245 times SEED and 12345, as an int that goes round; bits 16 to 30 (SEED 1 at first).");
        s.due(() -> new HoopFair().seed(0), 1);
        int[] seeds = {1, 0, -1, Integer.MAX_VALUE, Integer.MIN_VALUE, 12345, -2063144, 1 << 16, 1 << 31 | 1 << 16};
        s.law(f, "spread 4", 1);
        for (int first : seeds) {
            f.seed(first);
            f.skill(0, 0);
            f.toss(0, 0, 30, 0, 5);
            s.due(() -> f.log(0, 2), 30 + drawn(next(first), 4));
            s.due(() -> f.log(0, 3), 15 + drawn(next(next(first)), 4));
            s.due(() -> f.seed(0), next(next(first)));
        }
        // By SEED 1: 16838 and 5758.
        HoopFair g = Texts.of("hoop 2 oval 0;person 0");
        s.law(g, "spread 4", 1);
        g.toss(0, 0, 30, 0, 5);
        s.due(() -> g.log(0, 2), 26 + 16838 % 9);
        s.due(() -> g.log(0, 3), 11 + 5758 % 9);
    }

    private void counts() {
        s.says("COUNTS: PRIZE of the BLOCK is PAID, the HOOP is taken up.");
        HoopFair f = Texts.of(SURE);
        s.due(() -> f.toss(0, 0, 20, 0, 3), 0);
        s.due(() -> f.count(6), 30);
        s.due(() -> f.count(8), 0);
        s.due(() -> f.toss(0, 0, 20, 0, 7), 1);
        s.due(() -> f.count(6), 130);
        s.due(() -> f.count(8), 0);
        s.due(() -> f.person(0, 2), 2);
        // By a bounce, too: the law takes 2 INCHES off.
        s.law(f, "short 2", 1);
        s.due(() -> f.toss(0, 0, 20, 0, 3), 0);
        s.due(() -> f.count(6), 160);
        s.due(() -> f.person(0, 2), 3);
        HoopFair g = Texts.of("block 20 9 side 2 prize 0;hoop 6 oval 0;person 99");
        s.due(() -> g.toss(0, 0, 20, 0, 3), 0);
        s.due(() -> g.count(6), 0);
        s.due(() -> g.person(0, 2), 1);
    }

    private void lies() {
        s.says("Else it LIES where it came to (at most 30 lie; then the oldest is taken up).");
        HoopFair f = Texts.of(SURE);
        s.due(() -> f.toss(0, 0, 23, 0, 3), -2);
        s.due(() -> f.lies(0, 1), 23);
        s.due(() -> f.lies(0, 2), 10);
        f.clear();
        for (int i = 0; i < 30; i++) {
            f.toss(0, i % 3, 30 + i % 20, 0, i / 3);
        }
        s.due(() -> f.count(8), 30);
        s.due(() -> f.lies(0, 1), 30);
        f.toss(0, 0, 0, 0, 0);
        s.due(() -> f.count(8), 30);
        s.due(() -> f.lies(0, 1), 31);
        s.due(() -> f.lies(28, 1), 39);
        s.due(() -> f.lies(29, 1), 0);
        s.due(() -> f.lies(30, 1), -1);
        // One that counts takes up none.
        f.toss(0, 0, 20, 0, 3);
        s.due(() -> f.lies(0, 1), 31);
    }

    private void knockNeeds() {
        s.says("Then, if it LIES and KNOCK is above 0");
        HoopFair f = Texts.of(KNOCKS + "knock 1");
        f.toss(0, 0, 17, 0, 3);
        s.due(() -> f.toss(0, 0, 18, 0, 3), -2);
        s.due(() -> f.lies(0, 1), 16);
        HoopFair counted = Texts.of(KNOCKS + "knock 9");
        counted.toss(0, 0, 17, 0, 3);
        s.due(() -> counted.toss(0, 0, 20, 0, 3), 0);
        s.due(() -> counted.lies(0, 1), 17);
        HoopFair none = Texts.of(KNOCKS + "knock 0");
        none.toss(0, 0, 17, 0, 3);
        none.toss(0, 0, 17, 0, 3);
        none.toss(0, 0, 18, 0, 3);
        s.due(() -> none.lies(0, 1), 17);
        s.due(() -> none.lies(1, 1), 17);
        // By KNOCK 0 it is not even asked anew where the new one lies: by this throw's STRICT it would be OVER.
        HoopFair same = Texts.of(KNOCKS + "knock 0;counts 1;hoop 2 oval 0");
        s.law(same, "strict 9 if throws<1", 1);
        same.toss(0, 0, 20, 0, 3);
        s.due(() -> same.toss(0, 1, 20, 0, 3), -2);
        s.due(() -> same.count(8), 2);
        s.due(() -> same.count(6), 0);
        // One on THE CLOTH knocks, too.
        HoopFair flat = Texts.of(KNOCKS + "knock 1");
        flat.toss(0, 0, 17, 0, 3);
        s.due(() -> flat.toss(0, 0, 16, 0, 3), -1);
        s.due(() -> flat.count(8), 2);
        s.due(() -> flat.lies(0, 1), 18);
    }

    private void knockedOne() {
        s.says("of all that lay ahead of it (and lie yet) the oldest ASLANT one at most KNOCK INCHES away from where it came to (by X, and by Y)");
        // KNOCK 3, of one aslant at 17 9: the X and PACE of the new one, and where the old one is then.
        int[][] news = {{14, 3, 18, 9}, {13, 3, 17, 9}, {17, 4, 17, 8}, {17, 2, 17, 10}, {14, 4, 18, 8}, {14, 2, 18, 10}, {13, 4, 17, 9},
            {14, 5, 17, 9}, {17, 1, 17, 9}, {17, 5, 17, 9}};
        for (int[] n : news) {
            HoopFair f = Texts.of(KNOCKS + "knock 3");
            f.toss(0, 0, 17, 0, 3);
            f.toss(0, 0, n[0], 0, n[1]);
            s.due(() -> f.lies(0, 1), n[2]);
            s.due(() -> f.lies(0, 2), n[3]);
        }
        HoopFair oldest = Texts.of(KNOCKS + "knock 9");
        oldest.toss(0, 0, 59, 0, 11);
        oldest.toss(0, 0, 14, 0, 3);
        oldest.toss(0, 0, 17, 0, 3);
        s.due(() -> oldest.lies(1, 1), 14);
        oldest.toss(0, 0, 23, 0, 3);
        // The flat ones stay; of the aslant ones (17, now 16 and flat) the oldest went, not the new one itself.
        s.due(() -> oldest.lies(1, 1), 14);
        s.due(() -> oldest.lies(2, 1), 16);
        s.due(() -> oldest.lies(3, 1), 23);
        HoopFair self = Texts.of(KNOCKS + "knock 9");
        s.due(() -> self.toss(0, 0, 17, 0, 3), -2);
        s.due(() -> self.lies(0, 1), 17);
        s.due(() -> self.lies(0, 3), 1);
        HoopFair yet = Texts.of(KNOCKS + "knock 2");
        yet.toss(0, 0, 17, 0, 3);
        for (int i = 0; i < 29; i++) {
            yet.toss(0, 0, 40, 0, 3);
        }
        s.due(() -> yet.lies(0, 1), 17);
        // The 31st takes up the one at 17: it knocks none.
        yet.toss(0, 0, 16, 0, 3);
        s.due(() -> yet.count(8), 30);
        s.due(() -> yet.lies(0, 1), 40);
        s.due(() -> yet.lies(29, 1), 16);
        HoopFair bounced = Texts.of("block 20 9 side 2 prize 30;hoop 6 oval 0;person 99;bounce 3;price 0;knock 3");
        // 17 9 comes to 17 12. The next lands at 17 6, comes to 17 9, and knocks by that: of 6 it would be too far.
        bounced.toss(0, 0, 17, 0, 3);
        s.due(() -> bounced.lies(0, 2), 12);
        s.due(() -> bounced.toss(0, 0, 17, 0, 2), -2);
        s.due(() -> bounced.lies(1, 2), 9);
        s.due(() -> bounced.lies(0, 2), 13);
        s.due(() -> bounced.lies(0, 1), 17);
    }

    private void knockedAway() {
        s.says("its X and its Y go an INCH away from the new one each (by the sign of the difference; not, if there is none)");
        // One aslant at 20 12, by KNOCK 9: the X and PACE of the new one, and where the old one is then.
        int[][] news = {{20, 4, 20, 12}, {19, 4, 21, 12}, {21, 4, 19, 12}, {20, 5, 20, 11}, {13, 5, 21, 11}, {27, 5, 19, 11},
            {20, 2, 20, 13}, {11, 3, 21, 13}, {29, 3, 19, 13}};
        for (int[] n : news) {
            HoopFair f = Texts.of(KNOCKS + "knock 9");
            s.due(() -> f.toss(0, 0, 20, 0, 4), -2);
            f.toss(0, 0, n[0], 0, n[1]);
            s.due(() -> f.lies(0, 1), n[2]);
            s.due(() -> f.lies(0, 2), n[3]);
        }
    }

    private void knockedAsked() {
        s.says("it is asked by the STRICT of this throw: OVER a BLOCK it is taken up");
        HoopFair strict = Texts.of(KNOCKS + "knock 9;counts 1");
        s.law(strict, "strict 1 if throws>0", 1);
        strict.toss(0, 0, 18, 0, 3);
        strict.toss(0, 0, 17, 0, 3);
        // 5 by 5 over a SIDE of 2, one away: 16 and 4 of 25.
        s.due(() -> strict.count(6), 30);
        HoopFair stricter = Texts.of(KNOCKS + "knock 9;counts 1");
        s.law(stricter, "strict 2 if throws>0", 1);
        stricter.toss(0, 0, 18, 0, 3);
        stricter.toss(0, 0, 17, 0, 3);
        s.due(() -> stricter.count(6), 0);
        s.due(() -> stricter.lies(0, 1), 19);
        s.due(() -> stricter.lies(0, 3), 1);
        HoopFair first = Texts.of(KNOCKS + "knock 9;counts 1");
        s.law(first, "strict 9 if throws<1", 1);
        // Aslant by STRICT 9; by this throw's 0 it goes over.
        s.due(() -> first.toss(0, 0, 20, 0, 3), -2);
        s.due(() -> first.toss(0, 0, 20, 0, 2), -2);
        s.due(() -> first.count(6), 30);
        s.due(() -> first.count(8), 1);

        s.says("(PRIZE of the least such is PAID, if KNOCKED ones count), else it LIES as it is then.");
        HoopFair two = Texts.of("block 20 9 side 2 prize 30;block 20 10 side 2 prize 50;hoop 6 oval 0;person 99;bounce 0;price 0;knock 5;counts 1");
        two.toss(0, 0, 18, 0, 3);
        two.toss(0, 0, 16, 0, 3);
        s.due(() -> two.count(6), 30);
        s.due(() -> two.log(0, 5), 0);
        HoopFair unpaid = Texts.of("block 20 9 side 2 prize 30;hoop 6 oval 0;person 99;bounce 0;price 0;knock 5;counts 0");
        unpaid.toss(0, 0, 18, 0, 3);
        unpaid.toss(0, 0, 16, 0, 3);
        s.due(() -> unpaid.count(6), 0);
        s.due(() -> unpaid.count(8), 1);
        s.due(() -> unpaid.log(0, 5), -1);
        HoopFair noBounce = Texts.of("block 20 9 side 2 prize 30;hoop 6 oval 0;person 99;bounce 3;price 0;knock 9;counts 1");
        // Aslant at 17 9 (of 6); knocked by 14 6 to 18 10: by a bounce it would be at 18 13.
        s.law(noBounce, "short 0", 1);
        noBounce.toss(0, 0, 17, 0, 2);
        s.due(() -> noBounce.lies(0, 2), 9);
        noBounce.toss(0, 0, 14, 0, 2);
        s.due(() -> noBounce.lies(0, 1), 18);
        s.due(() -> noBounce.lies(0, 2), 10);
        s.due(() -> noBounce.lies(0, 3), 1);
        HoopFair flat = Texts.of(KNOCKS + "knock 9");
        flat.toss(0, 0, 17, 0, 3);
        flat.toss(0, 0, 18, 0, 3);
        s.due(() -> flat.lies(0, 3), 0);
        // As it is then: flat, so that it is knocked no more; its HOOP and its age stay.
        flat.toss(0, 0, 19, 0, 2);
        s.due(() -> flat.lies(0, 1), 16);
        s.due(() -> flat.lies(1, 1), 17);
        // Beside one of VELVET it is ASLANT, too.
        HoopFair velvet = Texts.of("block 20 9 side 2 prize 30 velvet;hoop 6 oval 0;person 99;knock 9");
        velvet.toss(0, 0, 18, 0, 3);
        velvet.toss(0, 0, 23, 0, 3);
        s.due(() -> velvet.lies(0, 1), 17);
        s.due(() -> velvet.lies(0, 3), 1);
        HoopFair own = Texts.of("block 20 9 side 2 prize 30;hoop 3 oval 0;hoop 6 oval 0;person 99;bounce 0;price 0;knock 9;counts 1");
        // The knocked one of 3 is asked by its own width: not over, one away.
        own.toss(0, 0, 18, 0, 3);
        own.toss(0, 1, 17, 0, 3);
        s.due(() -> own.count(6), 0);
        s.due(() -> own.lies(0, 1), 19);
        s.due(() -> own.lies(0, 0), 0);
        own.toss(0, 1, 17, 0, 3);
        s.due(() -> own.count(6), 30);
        // PAID sums up: what was paid stays.
        own.toss(0, 1, 20, 0, 3);
        own.toss(0, 1, 17, 0, 3);
        s.due(() -> own.count(6) >= 60, true);
    }

    private void grows() {
        s.says("throws is 1 more, SKILL 1 more (99 at most).");
        HoopFair f = Texts.of(SURE);
        f.skill(1, 97);
        int[] want = {98, 99, 99, 99};
        for (int i = 0; i < want.length; i++) {
            f.toss(1, 0, i % 2 == 0 ? 20 : 50, 0, 3);
            int n = i;
            s.due(() -> f.person(1, 0), want[n]);
            s.due(() -> f.person(1, 1), n + 1);
        }
        s.due(() -> f.person(0, 0), 99);
        s.due(() -> f.person(0, 1), 0);
        s.due(() -> f.count(7), 4);
        // The throw itself is aimed ahead of it: by the SKILL and the throws that were.
        HoopFair g = Texts.of(SURE);
        s.law(g, "right 5 if throws<1 and skill<1", 1);
        g.toss(1, 0, 50, 0, 3);
        s.due(() -> g.log(0, 2), 55);
        g.toss(1, 0, 50, 0, 3);
        s.due(() -> g.log(0, 2), 50);
    }

    private void acts() {
        s.says("ACTS (also where one changes nothing): THROWN; all that LIE are taken up; a HOOP is WET, or dry; SKILL is told; a BLOCK is moved.");
        HoopFair f = Texts.of(SURE);
        f.clear();
        s.due(() -> f.count(14), 1);
        f.wets(0, false);
        s.due(() -> f.count(14), 2);
        f.skill(0, 99);
        s.due(() -> f.count(14), 3);
        f.move(0, 20, 9);
        s.due(() -> f.count(14), 4);
        f.toss(0, 0, 50, 0, 3);
        s.due(() -> f.count(14), 5);
        f.seed(3);
        f.image();
        f.trial(0, 0, 20, 3, 9);
        f.span(0, 0, 20, 3, 9, true);
        f.large(0, 0, 20, 0);
        f.stop(0, 0, 20, 0, 3, true);
        f.till(0, 0, 20, 0, 3, 0);
        f.feed(1, 2, 3, 4, 5);
        f.end(0);
        s.due(() -> f.count(14), 5);
        s.due(f::undo, true);
        s.due(() -> f.count(8), 0);
        for (int i = 4; i >= 1; i--) {
            s.due(f::undo, true);
        }
        s.due(f::undo, false);
        s.due(() -> f.block(0, 0) + f.hoop(0, 2) + f.person(0, 0), 119);
    }

    private void log() {
        s.says("THE LOG: the latest 60 throws: who, the HOOP, X and Y where it LANDED (ahead of BOUNCE), what came of it");
        HoopFair f = Texts.of("hoop 2 oval 0;hoop 3 oval 0;person 99;person 99");
        for (int i = 0; i < 60; i++) {
            f.toss(i % 2, i / 30, i, 0, i % 12);
            int n = i;
            s.due(() -> f.count(13), n + 1);
        }
        s.due(() -> f.log(59, 2), 0);
        f.toss(1, 1, 33, 0, 0);
        s.due(() -> f.count(13), 60);
        s.due(() -> f.log(59, 2), 1);
        s.due(() -> f.log(59, 0), 1);
        s.due(() -> f.log(59, 1), 0);
        s.due(() -> f.log(59, 3), 3);
        s.due(() -> f.log(0, 2), 33);
        s.due(() -> f.log(1, 2), 59);
        s.due(() -> f.log(60, 2), -99);
    }

    private void logRows() {
        s.says("what came of it (the BLOCK; NONE on THE CLOTH; - 2 ASLANT), the BLOCK that a KNOCKED one was PAID for (NONE).");
        HoopFair f = Texts.of("block 40 9 side 2 prize 5;block 20 9 side 2 prize 30;hoop 9 oval 0;hoop 6 oval 0;person 99;knock 3;counts 1");
        s.law(f, "left 1 if throws<2;short 0", 2);
        f.toss(0, 1, 51, 0, 3);
        // 18 9 bounces to 18 10 and is aslant; 17 9 bounces to 17 10 and knocks it to 19 10, over BLOCK 1.
        f.toss(0, 1, 19, 0, 3);
        f.toss(0, 1, 17, 0, 3);
        f.toss(0, 1, 40, 0, 3);
        int[][] want = {{0, 1, 40, 9, 0, -1}, {0, 1, 17, 9, -2, 1}, {0, 1, 18, 9, -2, -1}, {0, 1, 50, 9, -1, -1}};
        dueLog(f, want);
        s.due(() -> f.lies(1, 2), 10);
        HoopFair g = Texts.of("block 40 9 side 2 prize 5;block 20 9 side 2 prize 30;hoop 6 oval 0;person 99;bounce 0;knock 3;counts 1");
        g.toss(0, 0, 18, 0, 3);
        g.toss(0, 0, 17, 0, 3);
        g.toss(0, 0, 38, 0, 3);
        g.toss(0, 0, 37, 0, 3);
        dueLog(g, new int[][] {{0, 0, 37, 9, -2, 0}, {0, 0, 38, 9, -2, -1}, {0, 0, 17, 9, -2, 1}, {0, 0, 18, 9, -2, -1}});
    }

    private void dueLog(HoopFair f, int[][] want) {
        for (int ago = 0; ago < want.length; ago++) {
            for (int what = 0; what < 6; what++) {
                int a = ago;
                int w = what;
                s.due(() -> f.log(a, w), want[ago][what]);
            }
        }
    }
}
