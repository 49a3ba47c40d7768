/** What the document says of odds, plans, games, trials and of what is kept (==== 3. of "Terms"). */
final class PlanSentences {
    /**
     * HOOP 0 goes over BLOCK 0 up to 1 away both ways, and over BLOCK 1, of VELVET, at its middle alone. Person 0 spreads
     * not, person 1 spreads 2.
     */
    private static final String SURE = "block 20 9 side 2 prize 30;block 20 21 side 4 prize 100 velvet;"
            + "hoop 6 oval 0;hoop 4 oval 2 wet;hoop 3 oval 0;person 99;person 0;price 9";
    private static final String KNOCKS = "block 20 9 side 2 prize 30;hoop 6 oval 0;person 99;bounce 0;price 0;";

    private final Sentences s;

    PlanSentences(Sentences s) {
        this.s = s;
    }

    void run() {
        spots();
        narrowest();
        widest();
        ways();
        oddsAndWorth();
        how();
        where();
        reached();
        places();
        earns();
        large();
        arranged();
        till();
        stop();
        game();
        gauge();
        next();
        hidden();
        near();
        gap();
        trial();
        span();
        robbed();
        led();
        undone();
        noneRemembered();
        image();
        askedAnew();
    }

    /** Ten BLOCKS behind one another at X 20, each at 3 times its number: from 20 each has a PACE of its own. */
    private static HoopFair rowOfTen(String prizes) {
        StringBuilder text = new StringBuilder();
        String[] prize = prizes.split(" ");
        for (int b = 0; b < 10; b++) {
            text.append("block 20 ").append(3 * b).append(" side 1 prize ").append(prize[b % prize.length]).append(';');
        }
        HoopFair f = Texts.of(text + "hoop 2 oval 0;person 99");
        Texts.fair(f, "bounce 0;price 9");
        return f;
    }

    private void spots() {
        s.says("SPOTS of a HOOP and a BLOCK: how many DX, DY there are by which it is OVER (STRICT 0).");
        HoopFair f = Texts.of(SURE + ";block 40 9 side 1 prize 0;hoop 8 oval 3;hoop 15 oval 0;hoop 2 oval 1");
        s.due(() -> f.spots(0, 0), 9);
        s.due(() -> f.spots(0, 1), 1);
        s.due(() -> f.spots(1, 0), 0);
        // A of 5, B of 8: 3 by 3, and 0 by 2 either way.
        s.due(() -> f.spots(3, 0), 11);
        s.due(() -> f.spots(4, 2), 145);
        s.due(() -> f.spots(5, 2), 0);
        s.law(f, "strict 9", 1);
        s.due(() -> f.spots(0, 0), 9);
    }

    private void narrowest() {
        s.says("NARROWEST of a BLOCK by an OVAL: the least ACROSS (2 to 15, above OVAL) by which it can lie OVER it (STRICT 0); none.");
        HoopFair f = Texts.of("block 1 1 side 1 prize 0;block 9 9 side 9 prize 0;block 20 20 side 2 prize 0;hoop 5 oval 0;person 0");
        s.law(f, "strict 9", 1);
        int[][] want = {{0, 0, 2}, {0, 1, 3}, {0, 8, 10}, {0, 9, 11}, {1, 0, 13}, {1, 3, 15}, {1, 4, -1}, {1, 9, -1}, {2, 0, 3}, {2, 2, 5}};
        for (int[] w : want) {
            s.due(() -> f.narrowest(w[0], w[1]), w[2]);
        }
    }

    private void widest() {
        s.says("WIDEST of a HOOP: the greatest SIDE (1 to 9) that it can lie OVER; 0, if none.");
        HoopFair f = Texts.of("hoop 2 oval 1;hoop 2 oval 0;hoop 3 oval 0;hoop 12 oval 0;hoop 13 oval 0;hoop 15 oval 0;hoop 15 oval 4;hoop 10 oval 9");
        int[] want = {0, 1, 2, 8, 9, 9, 8, 0};
        for (int h = 0; h < want.length; h++) {
            int hoop = h;
            s.due(() -> f.hoop(hoop, 3), want[h]);
        }
    }

    private void ways() {
        s.says("WAYS of a throw: at how many of all places where it can LAND it COUNTS for a BLOCK (or any).");
        HoopFair f = Texts.of(SURE);
        s.due(() -> f.ways(1, 0, 20, 0, 3, 0), 12);
        s.due(() -> f.ways(1, 0, 20, 0, 7, 1), 1);
        s.due(() -> f.ways(1, 0, 22, 0, 7, 1), 1);
        s.due(() -> f.ways(1, 0, 23, 0, 7, 1), 0);
        s.due(() -> f.ways(0, 0, 20, 0, 3, 0), 1);
        s.due(() -> f.ways(0, 0, 20, 0, 3, 1), 0);
        Texts.fair(f, "bounce 0");
        s.due(() -> f.ways(1, 0, 20, 0, 3, 0), 9);
        // Both at once, of 9 by 9 places: of any they count together.
        HoopFair g = Texts.of("block 20 20 side 2 prize 1;block 22 20 side 2 prize 2;hoop 6 oval 0;person 0;bounce 0");
        s.law(g, "spread 4", 1);
        s.due(() -> g.ways(0, 0, 21, 0, 7, 0), 9);
        s.due(() -> g.ways(0, 0, 21, 0, 7, 1), 6);
        s.due(() -> g.ways(0, 0, 21, 0, 7, -1), 15);
        s.law(g, "spread 4;strict 2", 2);
        s.due(() -> g.ways(0, 0, 21, 0, 7, -1), 2);
        s.due(() -> rowOfTen("1").ways(0, 0, 20, 0, 9, 9), 1);
    }

    private void oddsAndWorth() {
        s.says("ODDS: WAYS of all places, in ten-thousandths, rounded down.");
        HoopFair f = Texts.of(SURE);
        int[] odds = {10000, 1111, 400, 204, 123};
        int[] pace = {7, 7, 7, 6, 6};
        for (int spread = 0; spread <= 4; spread++) {
            s.law(f, "spread " + spread, 1);
            int n = spread;
            s.due(() -> f.how(1, 0, 20, 1, 0), odds[n]);
            s.due(() -> f.how(1, 0, 20, 1, 2), pace[n]);
        }
        s.says("WORTH of a throw: PRIZE times WAYS of all BLOCKS together, times 100, by all places, rounded down.");
        int[] worth = {10000, 1111, 400, 204};
        for (int spread = 0; spread <= 3; spread++) {
            s.law(f, "spread " + spread, 1);
            int n = spread;
            s.due(() -> f.worth(1, 0, 20, 0, 7), worth[n]);
        }
        // Each of them is 55 alone; together 1000 by 9 are 111.
        HoopFair g = Texts.of("block 20 20 side 4 prize 5 velvet;block 21 20 side 4 prize 5 velvet;hoop 6 oval 0;person 25");
        s.due(() -> g.worth(0, 0, 20, 0, 7), 111);
        HoopFair h = Texts.of("block 20 21 side 1 prize 999 velvet;hoop 15 oval 0;person 0");
        s.law(h, "spread 4", 1);
        s.due(() -> h.worth(0, 0, 20, 0, 7), 99900);
        s.due(() -> h.worth(0, 0, 59, 0, 7), 0);
    }

    private void how() {
        s.says("of all HEIGHTS and PACES the one of the greatest ODDS (of several the least HEIGHT, then PACE).");
        HoopFair f = Texts.of("block 20 15 side 2 prize 1 velvet;block 40 33 side 2 prize 1 velvet;block 20 0 side 2 prize 1 velvet;"
                + "hoop 6 oval 0;hoop 15 oval 0;person 99");
        dueHow(f, 0, 0, 10000, 0, 5);
        dueHow(f, 0, 1, 0, 0, 0);
        dueHow(f, 0, 2, 10000, 0, 0);
        dueHow(f, 1, 0, 10000, 0, 3);
        // By HEIGHT 1 at the least PACE, by HEIGHT 0 at a greater one.
        s.law(f, "far 9 if height>0", 1);
        dueHow(f, 0, 0, 10000, 0, 5);
        s.law(f, "far 9 if height<1;far 9 if height>0 and height<3", 2);
        dueHow(f, 0, 0, 10000, 0, 2);
        s.law(f, "right 9 if height<3;far 3", 2);
        dueHow(f, 0, 0, 10000, 3, 4);
        s.law(f, "right 9 if height<5", 1);
        dueHow(f, 0, 0, 10000, 5, 5);
        dueHow(f, 1, 0, 10000, 5, 3);
        s.due(() -> f.how(0, 0, 50, 0, 1), 0);
        s.due(() -> f.how(0, 0, 50, 0, 2), 0);
        s.law(f, "strict 4 if height>0 and height<2;right 30 if height<1", 2);
        dueHow(f, 0, 0, 10000, 2, 5);
        // The greater ODDS, not the first.
        s.law(f, "spread 4 if height<2;spread 3 if height>2", 2);
        f.skill(0, 0);
        dueHow(f, 0, 0, 10000, 2, 5);
        s.due(() -> f.how(0, 0, 40, 1, 2), 11);
        s.due(() -> f.how(0, 0, 40, 1, 1), 2);
        howAtTheEnds();
    }

    /** As by ways() of each HEIGHT and PACE alone, where throws come far over each end of THE CLOTH. */
    private void howAtTheEnds() {
        HoopFair f = Texts.of("block 20 39 side 1 prize 7;block 20 0 side 1 prize 5;block 59 20 side 1 prize 3;block 0 20 side 1 prize 2;"
                + "hoop 15 oval 0;person 0;person 60;bounce 2");
        String law = "spread 4;short 6 if height<1;far 9 if height>0;left 6 if height>2;right 9 if height>3";
        s.law(f, law, 5);
        dueAsWays(f);
        s.law(f, law + ";strict 1 if pace>9", 6);
        dueAsWays(f);
    }

    private void dueAsWays(HoopFair f) {
        for (int from : new int[] {0, 3, 18, 20, 22, 55, 59}) {
            for (int person = 0; person < 2; person++) {
                int place = from;
                int who = person;
                int worth = 0;
                int reach = 0;
                for (int height = 0; height < 6; height++) {
                    for (int pace = 0; pace < 12; pace++) {
                        worth = Math.max(worth, f.worth(who, 0, place, height, pace));
                    }
                }
                for (int block = 0; block < 4; block++) {
                    int at = block;
                    int[] best = bestWays(f, who, place, at);
                    reach |= best[0] > 0 ? 1 << block : 0;
                    for (int what = 0; what < 3; what++) {
                        int w = what;
                        s.due(() -> f.how(who, 0, place, at, w), best[what]);
                    }
                }
                s.due(f.earns(who, 0, place), 200 - worth);
                s.due(f.reached(who, 0, place), reach);
            }
        }
    }

    private static int[] bestWays(HoopFair f, int person, int from, int block) {
        int[] best = {0, 0, 0};
        for (int height = 0; height < 6; height++) {
            for (int pace = 0; pace < 12; pace++) {
                int wide = 2 * f.aims(person, 0, from, height, pace, 2) + 1;
                int odds = f.ways(person, 0, from, height, pace, block) * 10000 / (wide * wide);
                if (odds > best[0]) {
                    best = new int[] {odds, height, pace};
                }
            }
        }
        return best;
    }

    private void dueHow(HoopFair f, int hoop, int block, int... want) {
        for (int what = 0; what < 3; what++) {
            int w = what;
            s.due(() -> f.how(0, hoop, 20, block, w), want[what]);
        }
    }

    private void where() {
        s.says("WHERE: the place of the rope whose HOW has the greatest ODDS (of several the least; none, if it is 0).");
        HoopFair f = Texts.of("block 20 9 side 2 prize 30;block 0 21 side 4 prize 1;block 59 21 side 4 prize 1;block 30 38 side 4 prize 1;"
                + "hoop 6 oval 0;person 99;person 0");
        s.due(() -> f.where(0, 0, 0), 19);
        s.due(() -> f.where(0, 0, 1), 0);
        s.due(() -> f.where(0, 0, 2), 59);
        s.due(() -> f.where(0, 0, 3), -1);
        // Of 18 to 22 the three in the middle of its 3 by 5 places.
        s.due(() -> f.where(1, 0, 0), 19);
        s.law(f, "spread 4 if from<21;spread 3 if from>21", 2);
        s.due(() -> f.where(1, 0, 0), 21);
        s.law(f, "left 1", 1);
        s.due(() -> f.where(0, 0, 2), -1);
        s.due(() -> f.where(0, 0, 1), 1);
    }

    private void reached() {
        s.says("REACHED from a place: BLOCKS for which some HEIGHT and PACE has WAYS, as bits.");
        HoopFair f = Texts.of(SURE);
        s.due(() -> f.reached(0, 0, 20), 3);
        s.due(() -> f.reached(0, 0, 19), 1);
        s.due(() -> f.reached(0, 0, 18), 0);
        s.due(() -> f.reached(1, 0, 18), 3);
        s.due(() -> f.reached(1, 0, 17), 1);
        s.due(() -> f.reached(1, 0, 16), 0);
        s.due(() -> rowOfTen("1").reached(0, 0, 20), 1023);
        s.due(() -> rowOfTen("1").reached(0, 0, 21), 0);
        s.law(f, "right 1 if height<5;right 30 if pace<7", 2);
        s.due(() -> f.reached(0, 0, 20), 2);
        s.due(() -> f.reached(0, 0, 19), 2);
        s.due(() -> Texts.of("hoop 6 oval 0;person 99").reached(0, 0, 20), 0);
    }

    private void duePlaces(HoopFair f, int... want) {
        s.due(() -> f.places(0, 0, -1), want.length);
        for (int k = 0; k < want.length; k++) {
            int n = k;
            s.due(() -> f.places(0, 0, n), want[k]);
        }
        s.due(() -> f.places(0, 0, want.length), -1);
        s.due(() -> f.places(0, 0, -2), -1);
    }

    private void places() {
        s.says("PLACES: the fewest places from which all BLOCKS are REACHED that are from any (6 at most, else none): how many;"
                + " the k-th in the first such row of places (by numbers, upward).");
        String people = "hoop 6 oval 0;person 99;bounce 0;";
        duePlaces(Texts.of(people + "block 10 9 side 2 prize 1;block 12 12 side 2 prize 1;block 14 15 side 2 prize 1"), 9, 13);
        duePlaces(Texts.of(people + "block 10 9 side 2 prize 1;block 12 12 side 2 prize 1;block 13 15 side 2 prize 1;block 30 9 side 2 prize 1"),
                9, 12, 29);
        duePlaces(Texts.of(people + "block 10 9 side 2 prize 1;block 11 12 side 2 prize 1;block 12 15 side 2 prize 1"), 11);
        duePlaces(Texts.of(people + "block 0 9 side 2 prize 1;block 59 12 side 2 prize 1"), 0, 58);
        duePlaces(Texts.of(people + "block 0 9 side 4 prize 1;block 59 12 side 4 prize 1"), 0, 59);
        duePlaces(Texts.of(people + "block 20 9 side 9 prize 1;block 20 15 side 2 prize 1"), 19);
        HoopFair six = Texts.of(people + "block 5 9 side 2 prize 1;block 15 9 side 2 prize 1;block 25 9 side 2 prize 1;block 35 9 side 2 prize 1;"
                + "block 45 9 side 2 prize 1;block 55 9 side 2 prize 1");
        duePlaces(six, 4, 14, 24, 34, 44, 54);
        Texts.fair(six, "block 0 30 side 2 prize 1");
        for (int k = -2; k <= 7; k++) {
            int n = k;
            s.due(() -> six.places(0, 0, n), -1);
        }
        duePlaces(rowOfTen("1"), 20);
        duePlaces(Texts.of(people + "price 1"));
        duePlaces(Texts.of(people + "block 20 9 side 9 prize 1"));
    }

    private void earns() {
        s.says("EARNS by a PERSON, a HOOP, a place: PRICE times 100 by 3, rounded down, less the greatest WORTH of all HEIGHTS and PACES.");
        HoopFair f = Texts.of(SURE);
        int[] price = {0, 1, 2, 3, 7, 98, 99};
        int[] third = {0, 33, 66, 100, 233, 3266, 3300};
        for (int i = 0; i < price.length; i++) {
            Texts.fair(f, "price " + price[i]);
            int want = third[i];
            s.due(() -> f.earns(0, 0, 50), want);
            s.due(() -> f.earns(0, 0, 21), want - 3000);
            s.due(() -> f.earns(0, 0, 20), want - 10000);
            s.due(() -> f.earns(1, 0, 20), want - 1440);
        }
        s.law(f, "right 30 if height<5", 1);
        s.due(() -> f.earns(0, 0, 20), 3300 - 10000);
        // The greatest of one throw, though no BLOCK's ODDS are the greatest by it: both BLOCKS by PACE 4.
        HoopFair g = Texts.of("block 20 9 side 2 prize 10;block 20 15 side 2 prize 10;hoop 6 oval 0;person 0;bounce 0;price 0");
        s.law(g, "spread 2", 1);
        s.due(() -> g.earns(0, 0, 20), -360);
        s.law(g, "spread 3", 1);
        s.due(() -> g.earns(0, 0, 20), -244);
        s.due(() -> g.worth(0, 0, 20, 0, 4), 244);
    }

    private void large() {
        s.says("LARGE: the least SIDE (1 to 9) of a BLOCK by which ODDS of HOW there (with that SIDE) times PRIZE, times 3,"
                + " are PRICE times 10000 at most; none.");
        HoopFair f = Texts.of("block 20 9 side 2 prize 30;block 40 9 side 2 prize 3;block 50 9 side 2 prize 4;"
                + "hoop 6 oval 0;hoop 12 oval 0;hoop 13 oval 0;hoop 15 oval 0;hoop 2 oval 1;person 99;price 9");
        s.due(() -> f.large(0, 0, 40, 1), 1);
        s.due(() -> f.large(0, 0, 50, 2), 5);
        s.due(() -> f.large(0, 0, 51, 2), 4);
        s.due(() -> f.large(0, 1, 20, 0), 9);
        s.due(() -> f.large(0, 2, 20, 0), -1);
        s.due(() -> f.large(0, 3, 20, 0), -1);
        s.due(() -> f.large(0, 4, 20, 0), 1);
        s.due(() -> f.block(0, 2) + f.block(1, 2) + f.block(2, 2), 6);
        s.due(() -> f.how(0, 0, 20, 0, 0), 10000);
        // Rounded down ODDS of 1 of 9: 1111 times 27, times 3, are 89991; of 28: 93324; and of none: 0.
        HoopFair g = Texts.of("block 20 9 side 4 prize 27 velvet;block 40 9 side 4 prize 28 velvet;hoop 6 oval 0;person 25;price 9");
        s.due(() -> g.large(0, 0, 20, 0), 4);
        s.due(() -> g.large(0, 0, 40, 1), 5);
        Texts.fair(g, "price 0");
        s.due(() -> g.large(0, 0, 20, 0), 5);
        // 204 times 817, times 3, are 500004; times 816 they are 499392.
        HoopFair h = Texts.of("block 20 9 side 4 prize 816 velvet;block 40 9 side 4 prize 817 velvet;hoop 6 oval 0;person 0;price 50");
        s.law(h, "spread 3", 1);
        s.due(() -> h.large(0, 0, 20, 0), 4);
        s.due(() -> h.large(0, 0, 40, 1), 5);
        s.due(() -> Texts.of("block 20 9 side 2 prize 0;hoop 15 oval 0;person 99;price 0").large(0, 0, 20, 0), 1);
    }

    private void dueArranged(HoopFair f, int sum, int... whose) {
        s.due(() -> f.arranged(0, 0, 20, -1), sum);
        for (int b = 0; b < whose.length; b++) {
            int block = b;
            s.due(() -> f.arranged(0, 0, 20, block), whose[b]);
        }
    }

    private void arranged() {
        s.says("ARRANGED: the PRIZES of all BLOCKS are given to BLOCKS anew, so that ODDS of HOW times PRIZE, together, are the least: that sum;");
        HoopFair f = Texts.of("block 20 9 side 2 prize 100;block 40 9 side 2 prize 30;block 20 15 side 2 prize 50;hoop 6 oval 0;person 99");
        dueArranged(f, 800000, 1, 0, 2);
        s.due(() -> f.arranged(0, 0, 40, -1), 300000);
        s.due(() -> f.arranged(0, 0, 55, -1), 0);
        s.due(() -> f.block(0, 3), 100);
        dueArranged(Texts.of("hoop 6 oval 0;person 99"), 0);
        dueArranged(Texts.of("block 20 9 side 2 prize 999;hoop 6 oval 0;person 99"), 9990000, 0);

        s.says("whose PRIZE a BLOCK has in the first such way (BLOCK 0 that of the least BLOCK that can be, then 1, ..).");
        dueArranged(Texts.of("block 20 9 side 2 prize 7;block 40 9 side 2 prize 3;block 50 9 side 2 prize 3;hoop 6 oval 0;person 99"),
                30000, 1, 0, 2);
        dueArranged(Texts.of("block 40 9 side 2 prize 3;block 50 9 side 2 prize 7;block 20 9 side 2 prize 3;hoop 6 oval 0;person 99"),
                30000, 0, 1, 2);
        dueArranged(Texts.of("block 40 9 side 2 prize 3;block 50 9 side 2 prize 3;block 20 9 side 2 prize 7;hoop 6 oval 0;person 99"),
                30000, 0, 2, 1);
        dueArranged(rowOfTen("999"), 99900000, 0, 1, 2, 3, 4, 5, 6, 7, 8, 9);
        dueArranged(rowOfTen("9 8 7 6 5 4 3 2 1 0"), 450000, 0, 1, 2, 3, 4, 5, 6, 7, 8, 9);
    }

    private void till() {
        s.says("behind how many throws (1 to 200) ODDS at a BLOCK, together, are 10000 at least; none.");
        HoopFair f = Texts.of(SURE);
        s.due(() -> f.till(0, 0, 20, 0, 3, 0), 1);
        s.due(() -> f.till(0, 0, 50, 0, 3, 0), -1);
        // 25 throws of 400 each are 10000; of 1111 each, nine are not.
        s.due(() -> f.till(1, 0, 20, 0, 7, 1), 25);
        s.law(f, "spread 1", 1);
        s.due(() -> f.till(1, 0, 20, 0, 7, 1), 10);
        s.law(f, "right 9 if throws<199", 1);
        s.due(() -> f.till(0, 0, 20, 0, 3, 0), 200);
        s.law(f, "right 9 if throws<200", 1);
        s.due(() -> f.till(0, 0, 20, 0, 3, 0), -1);
        s.law(f, "right 9 if throws>0;spread 9", 2);
        s.due(() -> f.till(1, 0, 20, 0, 3, 0), -1);

        s.says("TILL: one throws likewise again and again (PERSON, HOOP, place, HEIGHT, PACE; throws and SKILL grow)");
        s.law(f, "right 9 if skill<99", 1);
        s.due(() -> f.till(1, 0, 20, 0, 3, 0), 100);
        f.skill(1, 98);
        s.due(() -> f.till(1, 0, 20, 0, 3, 0), 2);
        s.law(f, "right 9 if skill<100 and throws<150", 1);
        s.due(() -> f.till(1, 0, 20, 0, 3, 0), 151);
        f.toss(1, 0, 50, 0, 0);
        s.due(() -> f.till(1, 0, 20, 0, 3, 0), 150);
        s.law(f, "right 9 if skill>99", 1);
        s.due(() -> f.till(1, 0, 20, 0, 3, 0), 1);
        // STRICT changes from throw to throw. The first one alone has ODDS:
        f.skill(1, 0);
        s.law(f, "spread 2;strict 1 if throws<2;strict 5 if throws>1", 3);
        s.due(() -> f.ways(1, 0, 20, 0, 3, 0) > 0, true);
        s.due(() -> f.till(1, 0, 20, 0, 3, 0), -1);
        // 400 each but for one of none; the 26th is 1111, by SKILL 25.
        s.law(f, "spread 2;strict 5 if throws>1 and throws<3", 2);
        s.due(() -> f.till(1, 0, 20, 0, 7, 1), 26);
        f.skill(1, 99);
        s.law(f, "right 9 if throws<10;right 9 if height<2;right 9 if pace<3;right 9 if hoop>0;right 9 if who<1", 5);
        s.due(() -> f.till(1, 0, 20, 2, 3, 0), 10);
        s.due(() -> f.person(1, 1) + f.person(1, 0), 100);
    }

    private void stop() {
        s.says("STOP: the number of throws (0 to 60) by which WORTH of these, together, less PRICE times 100 for each begun three of them"
                + " (counted from the first of these), is the greatest; of several the least; how much it is.");
        HoopFair f = Texts.of(SURE);
        dueStop(f, 60, 60 * 3000 - 20 * 900);
        s.due(() -> f.stop(0, 0, 50, 0, 3, false), 0);
        s.due(() -> f.stop(0, 0, 50, 0, 3, true), 0);
        for (int n = 1; n <= 7; n++) {
            s.law(f, "right 9 if throws>" + (n - 1), 1);
            dueStop(f, n, n * 3000 - (n + 2) / 3 * 900);
        }
        f.toss(0, 0, 50, 0, 3);
        // One throw less is left: but the threes begin with the first of these.
        for (int n = 2; n <= 7; n++) {
            s.law(f, "right 9 if throws>" + n, 1);
            dueStop(f, n, n * 3000 - (n + 2) / 3 * 900);
        }
        // Three of 300 are 900: as much as none. Three of 301 are more.
        HoopFair g = Texts.of("block 20 9 side 2 prize 3;hoop 6 oval 0;person 99;price 9");
        dueStop(g, 0, 0);
        Texts.fair(g, "price 8");
        dueStop(g, 60, 60 * 300 - 20 * 800);
        s.law(g, "right 9 if throws>4", 1);
        // Two begun of the second three are worth 600, and cost 800.
        dueStop(g, 3, 100);
        s.law(g, "right 9 if throws>1", 1);
        dueStop(g, 0, 0);
        Texts.fair(g, "price 0");
        dueStop(g, 2, 600);
        // At the 59th and the 60th throw it only grows by the SKILL of 59; the 61st is none.
        HoopFair h = Texts.of("block 20 9 side 2 prize 3;hoop 6 oval 0;person 0;price 0");
        s.law(h, "right 9 if skill<59", 1);
        dueStop(h, 60, 300);
        s.law(h, "right 9 if skill<60", 1);
        dueStop(h, 0, 0);
    }

    private void dueStop(HoopFair f, int number, int much) {
        s.due(() -> f.stop(0, 0, 20, 0, 3, false), number);
        s.due(() -> f.stop(0, 0, 20, 0, 3, true), much);
    }

    private void dueGame(HoopFair f, int hoops, int... want) {
        for (int what = 0; what < 3; what++) {
            int w = what;
            s.due(() -> f.game(0, 20, hoops, w), want[what]);
        }
    }

    private void game() {
        s.says("the most that one is sure of, the least that he is sure of; RESTS: pairs (8 HOOPS by 10 BLOCKS) from which neither would do"
                + " better alone: how many.");
        HoopFair f = Texts.of(SURE);
        // HOOP 0: 300000, 1000000; HOOP 1: 0, 0; HOOP 2: 300000, 0.
        dueGame(f, 1, 1000000, 1000000, 1);
        dueGame(f, 2, 0, 0, 2);
        dueGame(f, 4, 300000, 300000, 1);
        dueGame(f, 5, 300000, 300000, 1);
        dueGame(f, 3, 0, 0, 2);
        dueGame(f, 7, 0, 0, 2);
        HoopFair g = Texts.of("block 20 9 side 2 prize 10;block 20 15 side 2 prize 20;hoop 6 oval 0;hoop 6 oval 0 wet;person 99");
        s.law(g, "right 5 if wet and pace<5;right 5 if not wet and pace>4", 2);
        // HOOP 0: 100000, 0; HOOP 1: 0, 200000: no pair rests.
        dueGame(g, 3, 0, 100000, 0);
        HoopFair all = rowOfTen("5");
        Texts.fair(all, Sentences.lines("hoop 2 oval 0", 7));
        dueGame(all, 255, 50000, 50000, 80);
        dueGame(all, 128, 50000, 50000, 10);
        HoopFair rising = rowOfTen("1 2 3 4 5 6 7 8 9 10");
        dueGame(rising, 1, 100000, 100000, 1);
        Texts.fair(rising, Sentences.lines("hoop 2 oval 0", 7));
        dueGame(rising, 255, 100000, 100000, 8);
        dueGame(rising, 129, 100000, 100000, 2);
        // HOOP 1 goes over none: what HOOPS 2 and 3 are worth is not mixed with it.
        HoopFair falling = rowOfTen("10 9 8 7 6 5 4 3 2 1");
        Texts.fair(falling, "hoop 2 oval 1;hoop 2 oval 0;hoop 2 oval 0");
        dueGame(falling, 15, 0, 0, 10);
        dueGame(falling, 13, 100000, 100000, 3);
        dueGame(falling, 6, 0, 0, 10);
        dueGame(falling, 2, 0, 0, 10);

        s.says("Sets are bits; of none they count for nothing.");
        dueGame(f, 1 | 8, 1000000, 1000000, 1);
        dueGame(f, Integer.MIN_VALUE | 4, 300000, 300000, 1);
        dueGame(f, -1, 0, 0, 2);
        dueGame(f, -7, 1000000, 1000000, 1);
        s.due(() -> f.game(0, 20, 8, 0), Sentences.STATE);
        s.due(() -> f.game(0, 20, -8, 0), Sentences.STATE);
    }

    private void dueGauge(boolean next, int want, int... bytes) {
        HoopFair f = new HoopFair();
        Sentences.tape(f, bytes);
        s.due(() -> f.gauge(next), want);
    }

    private void gauge() {
        s.says("KINDS (ACROSS 2 to 15, OVAL 0 to 9 below it) that fit (with its middle at that of a BLOCK of that SIDE, STRICT 0): how many;");
        // Of 104 kinds so many have a WIDEST of 0, 1, ..
        int[] kinds = {9, 10, 11, 11, 13, 12, 12, 10, 8, 8};
        dueGauge(false, 104);
        int over = 104;
        for (int side = 1; side <= 9; side++) {
            over -= kinds[side - 1];
            dueGauge(false, over, side, 1);
            dueGauge(false, 104 - over, side, 0);
            if (side > 1) {
                dueGauge(false, kinds[side - 1], side, 0, side - 1, 1);
                dueGauge(false, 0, side, 1, side - 1, 0);
            }
        }
        dueGauge(false, 0, 5, 1, 5, 0);
        dueGauge(false, 50, 5, 1, 5, 1, 1, 1);
        HoopFair f = Texts.of("hoop 2 oval 0;person 0");
        s.law(f, "strict 9", 1);
        Sentences.tape(f, 9, 1);
        s.due(() -> f.gauge(false), 8);
    }

    private void next() {
        s.says("NEXT: the SIDE (1 to 9) whose greater part of these is the least (of several the least; none with fewer than two).");
        dueGauge(true, 5);
        dueGauge(true, 7, 5, 1);
        dueGauge(true, 6, 5, 1, 7, 0);
        // All of them are of one WIDEST: no SIDE parts them.
        dueGauge(true, 1, 6, 1, 7, 0);
        dueGauge(true, 1, 1, 0);
        dueGauge(true, 1, 9, 1);
        dueGauge(true, 9, 8, 1);
        dueGauge(true, 1, 2, 0);
        dueGauge(true, -1, 2, 1, 1, 0);
        dueGauge(true, -1, 9, 1, 9, 0);
    }

    private void hidden() {
        s.says("HIDDEN: BLOCKS that have another one in front of them: whose Y is less and whose X is less far away than half of both SIDES"
                + " together, as bits; those in front of one, as bits.");
        HoopFair f = Texts.of("block 20 9 side 2 prize 0;block 22 10 side 3 prize 0;block 23 11 side 2 prize 0;block 23 11 side 4 prize 0");
        // 0 and 1: 2 of 2.5; 0 and 2: 3 of 2; 0 and 3: 3 of 3; 2 and 3 are as far from the rope.
        s.due(f::hidden, 14);
        s.due(() -> f.block(0, 5), 0);
        s.due(() -> f.block(1, 5), 1);
        s.due(() -> f.block(2, 5), 2);
        s.due(() -> f.block(3, 5), 2);
        HoopFair g = Texts.of("block 20 10 side 1 prize 0;block 20 9 side 1 prize 0;block 21 39 side 1 prize 0;block 18 0 side 2 prize 0");
        s.due(g::hidden, 1);
        s.due(() -> g.block(0, 5), 2);
        s.due(() -> new HoopFair().hidden(), 0);
        s.due(() -> Texts.of("block 0 5 side 3 prize 0;block 1 39 side 1 prize 0").hidden(), 2);
        s.due(() -> Texts.of("block 20 10 side 9 prize 0").hidden(), 0);
        HoopFair ten = rowOfTen("1");
        s.due(ten::hidden, 1022);
        s.due(() -> ten.block(9, 5), 511);
        s.due(() -> ten.block(1, 5), 1);
    }

    private void near() {
        s.says("NEAR a place: BLOCKS whose middle is at most N INCHES away (by X, and by Y), as bits.");
        HoopFair f = Texts.of("block 20 10 side 9 prize 0;block 23 14 side 1 prize 0;block 17 10 side 1 prize 0");
        int[][] want = {{20, 10, 0, 1}, {20, 10, 2, 1}, {20, 10, 3, 5}, {20, 10, 4, 7}, {20, 14, 3, 2}, {20, 13, 3, 7}, {20, 11, 3, 7},
            {20, 7, 3, 5}, {20, 6, 3, 0}, {13, 10, 4, 4}, {12, 10, 4, 0}, {27, 14, 4, 2}, {0, 0, 60, 7}, {59, 39, 60, 7}};
        for (int[] w : want) {
            s.due(() -> f.near(w[0], w[1], w[2]), w[3]);
        }
        s.due(() -> rowOfTen("1").near(20, 13, 60), 1023);
        s.due(() -> new HoopFair().near(20, 13, 60), 0);
    }

    private void gap() {
        s.says("GAP of two BLOCKS: INCHES between their sides (the greater of those by X and by Y), doubled (below 0: they overlap).");
        HoopFair f = Texts.of("block 20 10 side 2 prize 0;block 25 11 side 3 prize 0;block 21 30 side 5 prize 0;block 20 10 side 9 prize 0;"
                + "block 22 12 side 2 prize 0");
        int[][] want = {{0, 1, 5}, {1, 0, 5}, {0, 2, 33}, {2, 1, 30}, {0, 3, -11}, {3, 0, -11}, {0, 4, 0}, {1, 4, 1}};
        for (int[] w : want) {
            s.due(() -> f.gap(w[0], w[1]), w[2]);
        }
    }

    private void trial() {
        s.says("TRIAL of N throws (0 to 40) alike from now (draws, too; nothing stays): how many COUNTED (KNOCKED ones that are PAID count, too).");
        HoopFair f = Texts.of(SURE);
        s.due(() -> f.trial(0, 0, 20, 3, 0), 0);
        s.due(() -> f.trial(0, 0, 20, 3, 1), 1);
        s.due(() -> f.trial(0, 0, 20, 3, 40), 40);
        s.due(() -> f.trial(0, 0, 20, 3, 41), Sentences.ARGUMENT);
        s.due(() -> f.trial(0, 0, 20, 3, -1), Sentences.ARGUMENT);
        // throws and SKILL grow in it, and begin with those that are.
        s.law(f, "right 9 if throws<3;spread 2", 2);
        s.due(() -> f.trial(0, 0, 20, 3, 5), 2);
        f.toss(0, 0, 50, 0, 3);
        s.due(() -> f.trial(0, 0, 20, 3, 5), 3);
        s.law(f, "right 9 if skill<2;spread 0", 2);
        s.due(() -> f.trial(1, 0, 20, 3, 5), 3);
        s.law(f, "spread 2", 1);
        for (int seed = -3; seed <= 3; seed++) {
            f.seed(seed);
            f.skill(1, 0);
            int counted = f.trial(1, 0, 20, 3, 9);
            int before = f.person(1, 2);
            for (int i = 0; i < 9; i++) {
                f.toss(1, 0, 20, 2, 3);
            }
            s.due(counted, f.person(1, 2) - before);
        }
        HoopFair g = Texts.of(KNOCKS + "knock 3;counts 1");
        s.law(g, "left 1 if throws>0", 1);
        s.due(() -> g.trial(0, 0, 18, 3, 1), 0);
        s.due(() -> g.trial(0, 0, 18, 3, 2), 1);
        s.due(() -> g.count(6) + g.count(7) + g.count(8) + g.count(13) + g.count(14), 0);
        s.due(() -> g.seed(1), 1);
        Texts.fair(g, "counts 0");
        s.due(() -> g.trial(0, 0, 18, 3, 2), 0);
        // One that lies from before may be knocked, too; the throw that does it counts once.
        Texts.fair(g, "counts 1");
        s.law(g, "", 0);
        g.toss(0, 0, 18, 0, 3);
        s.due(() -> g.trial(0, 0, 17, 3, 1), 1);
        s.due(() -> g.count(8), 1);
        s.due(() -> g.lies(0, 1), 18);
        // The latest row of THE LOG has a KNOCKED one: a trial of none has none.
        g.toss(0, 0, 17, 0, 3);
        s.due(() -> g.trial(0, 0, 50, 3, 0), 0);
        s.due(() -> g.trial(0, 0, 50, 3, 3), 0);
    }

    private void span() {
        s.says("SPAN: the fewest and the most of such TRIALS from SEED 1, 2, .. 6.");
        HoopFair f = Texts.of(SURE);
        boolean[] matters = new boolean[4];
        for (int from = 17; from <= 23; from++) {
            for (int n = 1; n <= 8; n++) {
                int[] counted = new int[8];
                for (int seed = 0; seed <= 7; seed++) {
                    f.seed(seed);
                    counted[seed] = f.trial(1, 0, from, 3, n);
                }
                int place = from;
                int many = n;
                f.seed(from * n);
                s.due(() -> f.span(1, 0, place, 3, many, false), least(counted, 1, 6));
                s.due(() -> f.span(1, 0, place, 3, many, true), most(counted, 1, 6));
                s.due(() -> f.seed(1), from * n);
                matters[0] |= most(counted, 0, 6) != most(counted, 1, 6);
                matters[1] |= most(counted, 2, 6) != most(counted, 1, 6);
                matters[2] |= most(counted, 1, 5) != most(counted, 1, 6);
                matters[3] |= most(counted, 1, 7) != most(counted, 1, 6);
            }
        }
        for (boolean one : matters) {
            s.due(one, true);
        }
        s.due(() -> f.span(1, 0, 20, 3, 0, true), 0);
        s.due(() -> f.span(0, 0, 20, 3, 40, false), 40);
        s.due(() -> f.count(7) + f.count(13) + f.count(14), 0);
    }

    private static int least(int[] counted, int from, int to) {
        int least = counted[from];
        for (int seed = from; seed <= to; seed++) {
            least = Math.min(least, counted[seed]);
        }
        return least;
    }

    private static int most(int[] counted, int from, int to) {
        int most = counted[from];
        for (int seed = from; seed <= to; seed++) {
            most = Math.max(most, counted[seed]);
        }
        return most;
    }

    private void robbed() {
        s.says("ROBBED: throws in THE LOG that came to nothing or lie ASLANT, but would have COUNTED where they LANDED by STRICT 0,"
                + " as BLOCKS and all are now: of a PERSON; of all.");
        HoopFair f = Texts.of(SURE);
        s.law(f, "strict 5", 1);
        // Of 6 less 5: aslant at 20 9; from 21 10 it bounces onto THE CLOTH.
        s.due(() -> f.toss(0, 0, 20, 0, 3), -2);
        s.law(f, "strict 5;right 1;far 1", 3);
        s.due(() -> f.toss(0, 0, 20, 0, 3), -1);
        s.law(f, "strict 5;right 2", 2);
        f.toss(0, 0, 20, 0, 3);
        s.law(f, "spread 0", 1);
        f.toss(1, 0, 20, 0, 3);
        f.toss(1, 0, 50, 0, 3);
        dueRobbed(f, 2, 2, 0);
        f.move(0, 50, 9);
        dueRobbed(f, 1, 0, 1);
        f.undo();
        // A HOOP that is WET is the same; one that lies no more was robbed yet.
        f.wets(0, true);
        f.clear();
        dueRobbed(f, 2, 2, 0);
        // It LANDED at 20 7: by a BOUNCE, as it is now, it would have been over.
        HoopFair g = Texts.of(KNOCKS + "price 0");
        s.law(g, "strict 3;short 2", 2);
        s.due(() -> g.toss(0, 0, 20, 0, 3), -2);
        dueRobbed(g, 0, 0);
        Texts.fair(g, "bounce 1");
        dueRobbed(g, 1, 1);
        Texts.fair(g, "bounce 3");
        dueRobbed(g, 1, 1);
        Texts.fair(g, "block 20 7 side 2 prize 1;bounce 0");
        dueRobbed(g, 1, 1);
        // Of more than 60 throws the latest 60.
        HoopFair many = Texts.of(KNOCKS + "person 99");
        s.law(many, "strict 5", 1);
        for (int i = 0; i < 61; i++) {
            many.toss(i % 2, 0, 20, 0, 3);
        }
        dueRobbed(many, 60, 30, 30);
    }

    private void dueRobbed(HoopFair f, int all, int... each) {
        s.due(() -> f.robbed(-1), all);
        for (int p = 0; p < each.length; p++) {
            int person = p;
            s.due(() -> f.robbed(person), each[p]);
        }
    }

    private void led() {
        s.says("LED: by how many rows of THE LOG a BLOCK was PAID (KNOCKED ones, too); the latest such one.");
        HoopFair f = Texts.of(KNOCKS + "knock 3;counts 1;block 40 9 side 2 prize 0");
        s.due(() -> f.led(0, false), 0);
        s.due(() -> f.led(0, true), -1);
        f.toss(0, 0, 20, 0, 3);
        f.toss(0, 0, 40, 0, 3);
        f.toss(0, 0, 18, 0, 3);
        s.due(() -> f.led(0, false), 1);
        s.due(() -> f.led(0, true), 2);
        f.toss(0, 0, 17, 0, 3);
        s.due(() -> f.led(0, false), 2);
        s.due(() -> f.led(0, true), 0);
        s.due(() -> f.led(1, false), 1);
        s.due(() -> f.led(1, true), 2);
        for (int i = 0; i < 57; i++) {
            f.toss(0, 0, 55, 0, 3);
        }
        s.due(() -> f.led(0, false), 1);
        s.due(() -> f.led(0, true), 57);
        s.due(() -> f.led(1, true), 59);
        f.toss(0, 0, 55, 0, 3);
        s.due(() -> f.led(1, false), 0);
        s.due(() -> f.led(1, true), -1);
    }

    private void undone() {
        s.says("UNDONE: the latest ACT not undone yet (12 are remembered): all is as ahead of it (but for the TAPE, fault(), THE IMAGE;"
                + " an ACT that went as the thirteenth came is remembered no more).");
        HoopFair f = Texts.of(SURE);
        s.due(f::undo, false);
        for (int i = 1; i <= 12; i++) {
            f.skill(1, i);
        }
        s.due(() -> f.count(14), 12);
        for (int i = 11; i >= 0; i--) {
            int skill = i;
            s.due(f::undo, true);
            s.due(() -> f.person(1, 0), skill);
            s.due(() -> f.count(14), skill);
        }
        s.due(f::undo, false);
        for (int i = 1; i <= 13; i++) {
            f.skill(1, i);
        }
        s.due(() -> f.count(14), 12);
        s.due(f::undo, true);
        s.due(() -> f.count(14), 11);
        for (int i = 11; i >= 1; i--) {
            s.due(f::undo, true);
        }
        s.due(f::undo, false);
        s.due(() -> f.person(1, 0), 1);
        // All of a throw goes back: what was taken in, paid, lay, the log, the seed, what was knocked.
        HoopFair g = Texts.of(KNOCKS + "price 9;knock 3;counts 1");
        g.toss(0, 0, 18, 0, 3);
        g.toss(0, 0, 20, 0, 3);
        g.toss(0, 0, 20, 0, 3);
        String before = State.of(g);
        g.toss(0, 0, 17, 0, 3);
        s.due(() -> g.count(6), 90);
        s.due(() -> g.count(5), 18);
        g.seed(55);
        s.due(g::undo, true);
        s.due(() -> State.of(g), before);
        // The TAPE, fault() and THE IMAGE are as they were.
        g.toss(0, 0, 50, 0, 3);
        String imaged = State.of(g);
        g.image();
        s.wrongFair(g, "price|");
        g.feed(1, 2, 3, 4, 5);
        s.due(g::undo, true);
        s.due(() -> g.end(20), true);
        s.due(g::fault, 5);
        s.due(() -> State.of(g), before);
        s.due(g::back, true);
        s.due(() -> State.withoutActs(g), imaged.substring(imaged.indexOf('\n')));
    }

    private void noneRemembered() {
        s.says("A text, going back: none are remembered.");
        HoopFair f = Texts.of(SURE);
        f.skill(1, 7);
        s.due(() -> Texts.fair(f, "price 3"), 2);
        s.due(() -> f.count(14), 0);
        s.due(f::undo, false);
        s.due(() -> f.person(1, 0), 7);
        f.skill(1, 8);
        s.law(f, "far 1", 1);
        s.due(() -> f.count(14), 0);
        s.due(f::undo, false);
        f.skill(1, 9);
        s.law(f, "", 0);
        s.due(() -> f.count(14), 0);
        f.skill(1, 10);
        f.image();
        s.due(() -> f.count(14), 1);
        s.due(f::back, true);
        s.due(() -> f.count(14), 0);
        s.due(f::undo, false);
        f.skill(1, 11);
        s.wrongFair(f, "price|");
        s.wrongLaw(f, "far|");
        Sentences.tape(f, 9, 1);
        f.gauge(false);
        s.due(() -> f.count(14), 1);
        HoopFair g = new HoopFair();
        for (int i = 0; i < 12; i++) {
            Texts.fair(g, "");
        }
        g.clear();
        s.due(() -> Texts.fair(g, ""), Sentences.UNSUPPORTED);
        s.due(() -> g.count(14), 1);
        s.due(g::undo, true);
    }

    private void image() {
        s.says("THE IMAGE (one) of all may be kept, and gone back to (but for the TAPE, fault() and THE IMAGE itself).");
        HoopFair f = new HoopFair();
        s.due(f::back, false);
        Texts.fair(f, KNOCKS + "knock 3;counts 1;price 9");
        s.law(f, "far 0;right 0", 2);
        f.toss(0, 0, 18, 0, 3);
        f.toss(0, 0, 20, 0, 3);
        f.seed(1234);
        f.image();
        String kept = State.withoutActs(f);
        f.toss(0, 0, 17, 0, 3);
        f.wets(0, true);
        f.skill(0, 3);
        f.move(0, 40, 30);
        f.clear();
        s.law(f, "far 5", 1);
        s.due(() -> Texts.fair(f, "block 1 1 side 1 prize 1;hoop 3 oval 0;person 4;price 50;bounce 3;knock 4;counts 0"), 2);
        f.toss(1, 1, 50, 0, 3);
        f.seed(99);
        s.wrongFair(f, "price|");
        f.feed(1, 2, 3, 4, 5);
        s.due(f::back, true);
        s.due(() -> State.withoutActs(f), kept);
        s.due(f::fault, 5);
        s.due(() -> f.end(20), true);
        f.skill(0, 1);
        s.due(f::back, true);
        s.due(() -> State.withoutActs(f), kept);
        // One alone: the latest.
        f.skill(0, 2);
        f.image();
        f.skill(0, 3);
        s.due(f::back, true);
        s.due(() -> f.person(0, 0), 2);
        // Of a law that there was not.
        HoopFair g = new HoopFair();
        g.image();
        s.law(g, "far 1", 1);
        s.due(g::back, true);
        s.due(() -> g.count(4), -1);
    }

    // ---- nothing is answered by what was

    private interface Act {
        void on(HoopFair f);
    }

    private static final Act[] ACTS = {f -> f.move(0, 23, 12), f -> f.wets(0, true), f -> f.skill(0, 40), f -> f.toss(0, 0, 20, 2, 3),
        HoopFair::undo, f -> f.move(1, 22, 9), HoopFair::image, f -> f.wets(1, true), f -> f.move(2, 50, 30), HoopFair::back,
        f -> Texts.fair(f, "bounce 3;price 40;knock 4;counts 1"), f -> f.toss(1, 1, 20, 2, 3), f -> f.toss(0, 0, 20, 2, 4),
        f -> Texts.law(f, "far 2;spread 3;strict 2 if hoop>0;right 2 if pace>4"), f -> f.seed(77), f -> Texts.law(f, ""),
        f -> Texts.fair(f, "block 26 9 side 1 prize 500;hoop 15 oval 3"), f -> f.move(0, 20, 33), HoopFair::back, f -> f.move(0, 20, 6),
        f -> Texts.law(f, "strict 9"), f -> f.toss(0, 0, 20, 2, 2), f -> f.move(0, 30, 6)};

    private static HoopFair anew(int acts) {
        HoopFair f = Texts.of("block 20 9 side 2 prize 30;block 20 21 side 4 prize 100 velvet;block 24 15 side 1 prize 7;hoop 6 oval 0;"
                + "hoop 9 oval 2;person 30;person 0;price 9");
        Texts.law(f, "spread 2;far 3 if wet;right 1 if skill>35;strict 1 if throws>0;short 1 if height>3");
        for (int i = 0; i < acts; i++) {
            ACTS[i].on(f);
        }
        return f;
    }

    private void askedAnew() {
        s.says("as BLOCKS and all are now");
        HoopFair asked = anew(0);
        for (int acts = 0; acts <= ACTS.length; acts++) {
            if (acts > 0) {
                ACTS[acts - 1].on(asked);
            }
            String want = answers(anew(acts));
            s.due(() -> answers(asked), want);
            s.due(() -> answers(asked), want);
        }
        askedTwice();
    }

    private interface Ask {
        int of(HoopFair f);
    }

    private static final Ask[] ASKS = {f -> f.places(0, 0, -1), f -> f.places(0, 0, 0), f -> f.where(0, 0, 0), f -> f.reached(0, 0, 20),
        f -> f.ways(0, 0, 20, 0, 3, 0), f -> f.worth(0, 0, 20, 0, 3), f -> f.how(0, 0, 20, 0, 0), f -> f.how(0, 0, 20, 0, 2),
        f -> f.earns(0, 0, 20), f -> f.large(0, 0, 20, 0), f -> f.arranged(0, 0, 20, -1), f -> f.till(0, 0, 20, 0, 3, 0),
        f -> f.stop(0, 0, 20, 0, 3, true), f -> f.game(0, 20, 1, 0), f -> f.game(0, 20, 1, 1), f -> f.trial(0, 0, 20, 3, 9),
        f -> f.robbed(-1), f -> f.hidden(), f -> f.comes(0, 20, 9, 0)};

    /** Each call by itself, asked ahead of an act and behind it. */
    private void askedTwice() {
        boolean[] differ = new boolean[ASKS.length];
        for (int ask = 0; ask < ASKS.length; ask++) {
            for (int act = 0; act < ACTS.length; act++) {
                HoopFair f = anew(act);
                int before = ASKS[ask].of(f);
                ACTS[act].on(f);
                int want = ASKS[ask].of(anew(act + 1));
                s.due(ASKS[ask].of(f), want);
                differ[ask] |= before != want;
            }
        }
        for (boolean one : differ) {
            s.due(one, true);
        }
    }

    private static String answers(HoopFair f) {
        StringBuilder text = new StringBuilder();
        for (int p = 0; p < 2; p++) {
            for (int h = 0; h < 2; h++) {
                add(text, f.places(p, h, -1), f.places(p, h, 0), f.places(p, h, 1), f.where(p, h, 0), f.where(p, h, 2), f.reached(p, h, 21));
                add(text, f.ways(p, h, 20, 2, 3, -1), f.worth(p, h, 21, 2, 3), f.how(p, h, 21, 0, 0), f.how(p, h, 21, 1, 1), f.how(p, h, 21, 2, 2));
                add(text, f.earns(p, h, 20), f.large(p, h, 21, 0), f.large(p, h, 21, 1), f.arranged(p, h, 20, -1), f.arranged(p, h, 20, 0));
                add(text, f.till(p, h, 20, 0, 3, 0), f.stop(p, h, 20, 0, 3, false), f.stop(p, h, 20, 0, 3, true), f.trial(p, h, 20, 3, 30));
                add(text, f.span(p, h, 20, 3, 20, false), f.span(p, h, 20, 3, 20, true), f.spots(h, 0), f.comes(h, 21, 9, 0));
            }
            add(text, f.game(p, 20, 3, 0), f.game(p, 20, 3, 1), f.game(p, 20, 3, 2), f.robbed(p));
        }
        add(text, f.hidden(), f.near(20, 9, 6), f.gap(0, 1), f.led(0, false), f.led(0, true));
        return text.toString();
    }

    private static void add(StringBuilder text, int... answers) {
        for (int answer : answers) {
            text.append(answer).append(' ');
        }
        text.append('\n');
    }
}
