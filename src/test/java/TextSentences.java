/** What the document says of THE CLOTH, and of the texts of THE FAIR and THE LAW ("Terms", ahead of ==== 2.). */
final class TextSentences {
    private final Sentences s;

    TextSentences(Sentences s) {
        this.s = s;
    }

    void run() {
        calls();
        cloth();
        blocks();
        hoops();
        people();
        settings();
        texts();
        linesOfTheFair();
        orderOfTheFair();
        digitsOfTheFair();
        theLaw();
        linesOfTheLaw();
        conditions();
        sums();
        numbersOfTheLaw();
        words();
        blanks();
        empty();
        deep();
        firstWrongThing();
        digitsAndBounds();
        wrongWords();
        tooManyLines();
        tooManyOfAKind();
        textsLength();
        nothingStays();
    }

    private void calls() {
        s.says("An object is used for at most 512 calls after it has been made");
        HoopFair f = new HoopFair();
        // end(0), feed, feed, end(22), fair: 5 calls.
        Texts.fair(f, "hoop 2 oval 0;person 0");
        for (int call = 6; call <= 511; call++) {
            f.toss(0, 0, call % 60, call % 6, call % 12);
        }
        s.due(() -> f.count(7), 506);
    }

    private void cloth() {
        s.says("INCHES X 0 to 59 along the rope, Y 0 to 39 away from it");
        s.due(s.fair("block 0 39 side 1 prize 0").block(0, 1), 39);
        s.due(s.fair("block 59 0 side 1 prize 0").block(0, 0), 59);
        s.wrongFair("block |60 0 side 1 prize 0");
        s.wrongFair("block 0 |40 side 1 prize 0");
    }

    private void blocks() {
        s.says("BLOCKS (at most 10, numbered from 0 on)");
        HoopFair f = s.fair(Sentences.lines("block 3 4 side 1 prize 7", 9));
        s.due(() -> Texts.fair(f, "block 5 6 side 1 prize 8"), 2);
        s.due(() -> f.block(0, 3), 7);
        s.due(() -> f.block(9, 3), 8);
        s.due(() -> f.block(10, 3), Sentences.INDEX);
        s.due(() -> f.block(-1, 3), Sentences.INDEX);
        s.wrongFair(f, "|block 1 1 side 1 prize 1");
        s.due(() -> f.count(0), 10);
        s.due(s.fair(Sentences.lines("block 3 4 side 1 prize 7", 10)).count(0), 10);

        s.says("SIDE 1 to 9, PRIZE 0 to 999, VELVET or not");
        HoopFair g = s.fair("block 1 1 side 1 prize 0;block 2 2 side 9 prize 999 velvet");
        s.due(() -> g.block(0, 2), 1);
        s.due(() -> g.block(0, 3), 0);
        s.due(() -> g.block(0, 4), 0);
        s.due(() -> g.block(1, 2), 9);
        s.due(() -> g.block(1, 3), 999);
        s.due(() -> g.block(1, 4), 1);
        s.wrongFair("block 1 1 side |0 prize 0");
        s.wrongFair("block 1 1 side |10 prize 0");
        s.wrongFair("block 1 1 side 1 prize |1000");
    }

    private void hoops() {
        s.says("HOOPS (at most 8, numbered from 0 on)");
        HoopFair f = s.fair(Sentences.lines("hoop 9 oval 2", 7));
        s.due(() -> Texts.fair(f, "hoop 8 oval 1"), 2);
        s.due(() -> f.hoop(0, 0), 9);
        s.due(() -> f.hoop(7, 0), 8);
        s.due(() -> f.hoop(8, 0), Sentences.INDEX);
        s.due(() -> f.hoop(-1, 0), Sentences.INDEX);
        s.wrongFair(f, "|hoop 9 oval 2");
        s.due(() -> f.count(1), 8);

        s.says("ACROSS 2 to 15, OVAL 0 to 9 (below ACROSS): along X it is so much less ACROSS");
        HoopFair g = s.fair("hoop 2 oval 0;hoop 2 oval 1;hoop 15 oval 9;block 9 9 side 2 prize 0;hoop 10 oval 9;hoop 9 oval 8");
        s.due(() -> g.hoop(0, 0), 2);
        s.due(() -> g.hoop(0, 1), 0);
        s.due(() -> g.hoop(2, 0), 15);
        s.due(() -> g.hoop(2, 1), 9);
        s.wrongFair("hoop |1 oval 0");
        s.wrongFair("hoop |16 oval 0");
        s.wrongFair("hoop 2 oval |2");
        s.wrongFair("hoop 9 oval |9");
        s.wrongFair("hoop 15 oval |10");
        // 6 along X, 15 along Y: by Y it may be much farther away.
        s.due(() -> g.over(2, 0, 1, 1), true);
        s.due(() -> g.over(2, 0, 0, 5), true);
        s.due(() -> g.over(2, 0, 5, 0), false);

        s.says("WET or not");
        HoopFair h = s.fair("hoop 5 oval 0 wet;hoop 5 oval 0");
        s.due(() -> h.hoop(0, 2), 1);
        s.due(() -> h.hoop(1, 2), 0);
    }

    private void people() {
        s.says("PEOPLE (at most 6, numbered from 0 on): SKILL 0 to 99");
        HoopFair f = s.fair("person 0;person 1;person 2;person 3;person 4");
        s.due(() -> Texts.fair(f, "person 99"), 2);
        s.due(() -> f.person(0, 0), 0);
        s.due(() -> f.person(5, 0), 99);
        s.due(() -> f.person(6, 0), Sentences.INDEX);
        s.due(() -> f.person(-1, 0), Sentences.INDEX);
        s.wrongFair(f, "|person 9");
        s.due(() -> f.count(2), 6);
        s.wrongFair("person |100");
    }

    private void settings() {
        HoopFair f = new HoopFair();
        s.says("PRICE 0 to 99 (6 at first): of three throws");
        s.due(() -> f.count(9), 6);
        s.due(s.fair("price 99").count(9), 99);
        s.due(s.fair("price 0").count(9), 0);
        s.wrongFair("price |100");
        HoopFair g = Texts.of("hoop 2 oval 0;person 0;price 99");
        for (int i = 0; i < 3; i++) {
            g.toss(0, 0, 0, 0, 0);
        }
        s.due(() -> g.count(5), 99);

        s.says("BOUNCE 0 to 3 (1 at first)");
        s.due(() -> f.count(10), 1);
        s.due(s.fair("bounce 0").count(10), 0);
        s.due(s.fair("bounce 3").count(10), 3);
        s.wrongFair("bounce |4");

        s.says("KNOCK 0 to 9 (0 at first)");
        s.due(() -> f.count(11), 0);
        s.due(s.fair("knock 9").count(11), 9);
        s.due(s.fair("knock 9;knock 0").count(11), 0);
        s.wrongFair("knock |10");

        s.says("KNOCKED ones count, or not (not at first)");
        s.due(() -> f.count(12), 0);
        s.due(s.fair("counts 1").count(12), 1);
        s.wrongFair("counts |2");
    }

    private void texts() {
        s.says("THE FAIR is told in texts (at most 12, one behind another)");
        HoopFair f = new HoopFair();
        for (int i = 1; i <= 12; i++) {
            int n = i;
            s.due(() -> Texts.fair(f, n < 3 ? "person " + n : "price " + n), n);
        }
        s.due(() -> Texts.fair(f, "person 3"), Sentences.UNSUPPORTED);
        s.due(() -> f.count(2), 2);
        s.due(() -> f.person(0, 0), 1);
        s.due(() -> f.person(1, 0), 2);
        s.due(() -> f.count(9), 12);
        s.due(() -> f.count(3), 12);
    }

    private void linesOfTheFair() {
        s.says("LINE { ; LINE }, at most 14: block N N side N prize N [ velvet ]");
        s.fair("price 1");
        s.fair(Sentences.lines("price 1", 14));
        s.wrongFair(Sentences.lines("price 1", 14) + ";|price 1");
        s.wrongFair("price 1|price 2");
        s.wrongFair("price 1;|");

        s.says("block N N side N prize N [ velvet ] | hoop N oval N [ wet ] | person N | price N | bounce N | knock N | counts N.");
        s.fair("block 1 2 side 3 prize 4 velvet;block 1 2 side 3 prize 4;hoop 5 oval 1 wet;hoop 5 oval 1;person 6;price 7;bounce 1;"
                + "knock 2;counts 1");
        String[] wrong = {"|12", "block |side", "block 1 |side", "block 1 2 |3", "block 1 2 |prize 4", "block 1 2 side |prize",
            "block 1 2 side 3 |4", "block 1 2 side 3 prize |velvet", "block 1 2 side 3 prize 4 velvet |velvet",
            "block 1 2 side 3 prize 4 |wet", "hoop |oval", "hoop 5 |1", "hoop 5 oval |wet", "hoop 5 oval 1 |velvet",
            "hoop 5 oval 1 wet |wet", "person |;", "price |price", "bounce |velvet", "knock |wet", "counts |counts", "person 1 |2",
            "|velvet", "|side 3", "|oval 1", "|wet", "|prize 3"};
        for (String text : wrong) {
            s.wrongFair(text);
        }
    }

    private void orderOfTheFair() {
        s.says("(N N of block: X, Y; N of hoop: ACROSS, then OVAL; of person: SKILL; of counts: 1, KNOCKED ones count, or 0.)");
        HoopFair f = s.fair("block 11 12 side 3 prize 4;hoop 5 oval 2;person 6;counts 1");
        s.due(() -> f.block(0, 0), 11);
        s.due(() -> f.block(0, 1), 12);
        s.due(() -> f.block(0, 2), 3);
        s.due(() -> f.block(0, 3), 4);
        s.due(() -> f.hoop(0, 0), 5);
        s.due(() -> f.hoop(0, 1), 2);
        s.due(() -> f.person(0, 0), 6);
        s.due(() -> f.count(12), 1);
        s.due(() -> Texts.fair(f, "counts 0"), 2);
        s.due(() -> f.count(12), 0);
    }

    private void digitsOfTheFair() {
        s.says("Numbers are of 1 to 3 digits.");
        s.due(s.fair("price 9").count(9), 9);
        s.due(s.fair("price 09").count(9), 9);
        s.due(s.fair("price 009").count(9), 9);
        s.due(s.fair("block 001 1 side 1 prize 123").block(0, 3), 123);
        s.wrongFair("price |0009");
        s.wrongFair("block |0001 1 side 1 prize 1");
        s.wrongFair("price |");
        s.wrongFair("price |4294967297");
    }

    private void theLaw() {
        s.says("THE LAW (a text, in place of the one before)");
        HoopFair f = Texts.of("hoop 2 oval 0;person 0");
        s.law(f, "far 3;strict 2", 2);
        s.law(f, "right 4", 1);
        s.due(() -> f.aims(0, 0, 10, 0, 0, 0), 14);
        s.due(() -> f.aims(0, 0, 10, 0, 0, 1), 0);
        s.due(() -> f.aims(0, 0, 10, 0, 0, 3), 0);
        s.due(() -> f.count(4), 1);
        s.wrongLaw(f, "far 5;right 5;|");
        s.due(() -> f.aims(0, 0, 10, 0, 0, 0), 14);
        s.due(() -> f.aims(0, 0, 10, 0, 0, 1), 0);
        for (int i = 0; i < 13; i++) {
            s.law(f, "left 1", 1);
        }
    }

    private void linesOfTheLaw() {
        s.says("LINE { ; LINE }, at most 12: far N [ if C ]");
        HoopFair f = Texts.of("hoop 2 oval 0;person 0");
        s.law(f, Sentences.lines("far 5", 12), 12);
        s.due(() -> f.aims(0, 0, 0, 0, 0, 1), 60);
        s.wrongLaw(f, Sentences.lines("far 5", 12) + ";|far 5");
        s.wrongLaw("far 1|far 2");

        s.says("far N [ if C ] | short N [ if C ] | right N [ if C ] | left N [ if C ] | spread N [ if C ] | strict N [ if C ].");
        s.law(f, "far 9;short 1;right 8;left 2;spread 1;strict 5", 6);
        int[] all = {16, 8, 1, 5};
        s.law(f, "far 9 if 0<1;short 1 if 0<1;right 8 if 0<1;left 2 if 0<1;spread 1 if 0<1;strict 5 if 0<1", 6);
        dueAims(f, all);
        s.law(f, "far 9 if 1<0;short 1 if 1<0;right 8 if 1<0;left 2 if 1<0;spread 1 if 1<0;strict 5 if 1<0", 6);
        dueAims(f, new int[] {10, 0, 0, 0});
        String[] wrong = {"far |if wet", "far 1 |wet", "far 1 if |", "|if wet", "far 1 if wet |if wet", "spread |", "|throws 1",
            "strict 1 |2", "|price 1", "|block 1 1 side 1 prize 1"};
        for (String text : wrong) {
            s.wrongLaw(text);
        }
    }

    private void dueAims(HoopFair f, int[] want) {
        for (int what = 0; what < want.length; what++) {
            int w = what;
            s.due(() -> f.aims(0, 0, 10, 0, 0, w), want[what]);
        }
    }

    /** Person 1 (SKILL 5, two throws), HOOP 1 (WET), from 12, HEIGHT 3, PACE 4. */
    private static HoopFair conditioned() {
        HoopFair f = Texts.of("person 0;person 0;hoop 2 oval 0;hoop 2 oval 0 wet");
        f.toss(1, 0, 0, 0, 0);
        f.toss(1, 0, 0, 0, 0);
        f.skill(1, 5);
        return f;
    }

    private void dueCondition(HoopFair f, String condition, boolean holds) {
        s.law(f, "right 7 if " + condition, 1);
        s.due(() -> f.aims(1, 1, 12, 3, 4, 0), holds ? 19 : 12);
    }

    private void conditions() {
        s.says("C: ALL { or ALL }; ALL: ATOM { and ATOM }; ATOM: not ATOM | ( C ) | wet | SUM < SUM | SUM > SUM.");
        HoopFair f = conditioned();
        String[] hold = {"wet", "not not wet", "1<2", "2>1", "(wet)", "0>1 or wet", "wet or 0>1", "0>1 or 0>1 or wet",
            "wet or wet and 0>1", "0>1 and wet or wet", "wet and wet and wet", "not 0>1 or 0>1", "not (0>1 and wet)",
            "not (wet and 0>1)", "not 0>1 and wet", "(wet or 0>1) and wet", "not (not wet or 0>1)"};
        String[] not = {"not wet", "1<1", "1>1", "2<1", "1>2", "(not wet)", "0>1 or not wet", "wet and 0>1", "0>1 and wet",
            "wet and wet and 0>1", "(wet or wet) and 0>1", "not wet or 0>1", "not wet and wet", "not (wet or 0>1)",
            "0>1 and 0>1 or not wet"};
        for (String condition : hold) {
            dueCondition(f, condition, true);
        }
        for (String condition : not) {
            dueCondition(f, condition, false);
        }
        String[] wrong = {"far 1 if |and wet", "far 1 if |or wet", "far 1 if wet and|", "far 1 if wet or|", "far 1 if not|",
            "far 1 if (wet|", "far 1 if (|)", "far 1 if wet|)", "far 1 if 1|", "far 1 if 1 <|", "far 1 if 1 < 2 |< 3",
            "far 1 if 1 |= 1", "far 1 if 1 <|= 1", "far 1 if (1|) < 2", "far 1 if wet |< 1", "far 1 if 1 < |wet",
            "far 1 if wet |wet", "far 1 if wet |not wet", "far 1 if wet and |or wet", "far 1 if not |and wet", "far 1 if 1 < |not 2"};
        for (String text : wrong) {
            s.wrongLaw(text);
        }
    }

    private void sums() {
        s.says("SUM: PART { + PART }; PART: NUMBER | who | hoop | from | height | pace | skill | throws.");
        HoopFair f = conditioned();
        String[] parts = {"1 0", "who 1", "hoop 1", "from 12", "height 3", "pace 4", "skill 5", "throws 2"};
        for (int i = 1; i < parts.length; i++) {
            String word = parts[i].substring(0, parts[i].indexOf(' '));
            int value = Integer.parseInt(parts[i].substring(parts[i].indexOf(' ') + 1));
            dueCondition(f, word + "<" + (value + 1) + " and " + word + ">" + (value - 1), true);
            dueCondition(f, word + "<" + value + " or " + word + ">" + value, false);
        }
        dueCondition(f, "who+hoop+from+height+pace+skill+throws+0>27", true);
        dueCondition(f, "who+hoop+from+height+pace+skill+throws+0>28", false);
        dueCondition(f, "999+1<500+501", true);
        dueCondition(f, "999+1<500+500", false);
        dueCondition(f, "999+".repeat(89) + "999>999", true);
        String[] wrong = {"far 1 if |+ 1 < 2", "far 1 if 1 + |< 2", "far 1 if 1 |who < 2", "far 1 if 1 + |wet < 2", "far 1 if 1 < 2 +|",
            "far 1 if 1 |- 1 < 2", "far 1 if |far < 2", "far 1 if |-1 < 2"};
        for (String text : wrong) {
            s.wrongLaw(text);
        }
    }

    private void numbersOfTheLaw() {
        s.says("All numbers are of 1 to 3 digits (N of far, short, right, left 0 to 60; of spread, strict 0 to 9).");
        for (String word : new String[] {"far", "short", "right", "left"}) {
            s.law(word + " 0;" + word + " 60;" + word + " 060", 3);
            s.wrongLaw(word + " |61");
            s.wrongLaw(word + " |0060");
        }
        for (String word : new String[] {"spread", "strict"}) {
            s.law(word + " 0;" + word + " 9;" + word + " 009", 3);
            s.wrongLaw(word + " |10");
            s.wrongLaw(word + " |0009");
        }
        s.law("far 1 if 0<999", 1);
        s.law("far 1 if 000<001", 1);
        s.wrongLaw("far 1 if |1000>1");
        s.wrongLaw("far 1 if 1<1+|0001");
    }

    private void words() {
        s.says("Words are as long as a to z go on");
        s.fair("price1;person2;block3 4side5prize6velvet;hoop7oval1wet");
        s.wrongFair("|pricer 1");
        s.wrongFair("|pric e1");
        s.wrongFair("block 1 1 side 1 prize 1 |velvets");
        s.wrongFair("block 1 1 side 1 prize 1 |velve");
        s.wrongFair("hoop 5 |ovalwet");
        s.wrongFair("|Price 1");
        s.wrongFair("price|\u00e0 1");
        s.wrongFair("price|_1");
        s.wrongFair("price|{1");
        s.wrongFair("price|`1");
        s.law("far1if(wet)or not(wet)and who<1", 1);
        s.wrongLaw("far 1 if |notwet");
        s.wrongLaw("far 1 if wet |orwet");
        s.wrongLaw("far 1 |ifwet");
    }

    private void blanks() {
        s.says("between all there may be blanks (32), also ahead and behind");
        HoopFair f = s.fair("   block   1 2  side 3    prize 4   velvet   ;   price   5  ");
        s.due(() -> f.block(0, 4), 1);
        s.due(() -> f.count(9), 5);
        s.due(s.fair("price 1 ; price 2").count(9), 2);
        s.law("  far   1   if  (  not  who  +  1  <  2  )  and  wet  ;  left  2  ", 2);
        s.wrongFair("block 11 |side 1 prize 1");
        s.wrongFair("price 1 |0");
        s.wrongFair("|pri ce 1");
        for (int sign : new int[] {0, 9, 10, 13, 31, 33, 160}) {
            s.wrongFair("price|" + (char) sign + "1");
            s.wrongFair("|" + (char) sign + "price 1");
            s.wrongFair("price 1|" + (char) sign);
            s.wrongLaw("far|" + (char) sign + "1");
            s.wrongLaw("far 1|" + (char) sign);
        }
    }

    private void empty() {
        s.says("A text that is empty, or blanks alone, has no LINE.");
        HoopFair f = Texts.of("hoop 2 oval 0;person 0");
        s.due(() -> Texts.fair(f, ""), 2);
        s.due(() -> Texts.fair(f, " "), 3);
        s.due(() -> Texts.fair(f, " ".repeat(400)), 4);
        s.due(f::fault, -1);
        s.due(() -> f.count(4), -1);
        s.law(f, "", 0);
        s.due(() -> f.count(4), 0);
        s.law(f, "far 1", 1);
        s.law(f, " ".repeat(400), 0);
        s.due(() -> f.count(4), 0);
        // It is a text: SPREAD is no longer 2 without a LINE.
        s.due(() -> f.aims(0, 0, 0, 0, 0, 2), 0);
        s.due(() -> f.aims(0, 0, 0, 0, 0, 1), 0);
    }

    private void deep() {
        s.says("( and not within one another at most 6 deep.");
        s.law("far 1 if ((((((wet))))))", 1);
        s.law("far 1 if not not not not not not wet", 1);
        s.law("far 1 if not (not (not (wet)))", 1);
        s.law("far 1 if (not (not (not wet)))", 1);
        s.law("far 1 if ((((((wet)))))) and ((((((wet)))))) or not not not not not not wet", 1);
        s.law("far 1 if (((((wet) and (wet) or not wet) and not wet))) or (((((not wet)))))", 1);
        s.law("far 1 if ((((((wet))))));far 1 if ((((((wet))))))", 2);
        s.wrongLaw("far 1 if ((((((|(wet)))))))");
        s.wrongLaw("far 1 if ((((((|not wet))))))");
        s.wrongLaw("far 1 if not not not not not not |not wet");
        s.wrongLaw("far 1 if not not not not not not |(wet)");
        s.wrongLaw("far 1 if not (not (not (|(wet))))");
        s.wrongLaw("far 1 if (((((wet and (wet or |(wet)))))))");
        HoopFair f = conditioned();
        String inner = "0+0+1<1+1+0";
        for (int i = 0; i < 6; i++) {
            inner = "0>1 or wet and (" + inner + ")";
        }
        dueCondition(f, inner, true);
        dueCondition(f, inner.replace("1<1+1", "2<1+1"), false);
    }

    private void firstWrongThing() {
        s.says("The first wrong byte: the begin of the first thing that cannot stand there");
        HoopFair f = new HoopFair();
        s.wrongFair(f, "price |velvet;knock 99");
        s.wrongFair(f, "price 1 |! knock 99");
        s.wrongFair(f, "|;price 1");
        s.wrongFair(f, "price 1;|;price 1");
        s.wrongFair(f, "   |1");
        s.wrongFair(f, "price |-1");
        s.wrongFair(f, "price 1|.5");
        s.wrongFair(f, "price 1 |200");
        s.wrongLaw(f, "far 1 if 1 < 2 |3");
        s.wrongLaw(f, "far 1 if 1 < 2 |wet");
        s.wrongLaw(f, "far |+1");
        s.wrongLaw(f, "|;");
        s.wrongLaw(f, "far 1;|;far 1");
        s.wrongFair(f, "price 1|\u0000");
        s.wrongFair(f, "price 1|\u00ff");
        s.wrongFair(f, " ".repeat(399) + "|!");
    }

    private void digitsAndBounds() {
        s.says("(a number of more digits, or out of its bounds; a word that is none;");
        s.wrongFair("person |0001");
        s.wrongFair("person  |100 200");
        s.wrongFair("hoop |016 oval 0");
        s.wrongFair("hoop 10 oval  |0009");
        s.wrongFair("block 1 1 side |0001 prize 1");
        s.wrongFair("bounce |0003");
        s.wrongFair("knock |0009");
        s.wrongFair("counts |0001");
        s.wrongFair("counts |12345678901234567890");
        s.wrongLaw("right  |061");
        s.wrongLaw("far 1 if  |1000 < 1");
        s.wrongLaw("far 1 if 1 < |0999");
    }

    private void wrongWords() {
        s.says("a word that is none; the ( or not that is a 7th one deep;");
        s.wrongFair("|blok 1 1 side 1 prize 1");
        s.wrongFair("price 1; |prices 1");
        s.wrongFair("block 1 1 |edge 1 prize 1");
        s.wrongFair("block 1 1 side 1 |price 1");
        s.wrongFair("hoop 9 oval 0 |weet");
        s.wrongLaw("|fars 1");
        s.wrongLaw("far 1 |when wet");
        s.wrongLaw("far 1 if |wett");
        s.wrongLaw("far 1 if wet |xor wet");
        s.wrongLaw("far 1 if  |heights > 1");
        s.wrongLaw("far 1 if not not not not not  not   |not wet");
        s.wrongLaw("far 1 if (((((( |((((wet");
    }

    private void tooManyLines() {
        s.says("of a LINE too many, of a BLOCK, HOOP, PERSON too many, the first word)");
        String full = Sentences.lines("price 1", 14);
        s.wrongFair(full + ";|price 1");
        s.wrongFair(full + " ;   |price 100");
        s.wrongFair(full + ";|block 1");
        s.wrongFair(full + ";|blok");
        s.wrongFair(full + ";|");
        s.wrongFair(full + " |price 1");
        String law = Sentences.lines("far 1", 12);
        s.wrongLaw(law + ";|far 1");
        s.wrongLaw(law + " ;  |far 61");
        s.wrongLaw(law + ";|");
        s.wrongLaw(law + " if|");
    }

    private void tooManyOfAKind() {
        s.says("of a BLOCK, HOOP, PERSON too many, the first word)");
        s.wrongFair(Sentences.lines("block 1 1 side 1 prize 1", 10) + ";|block 1 1 side 1 prize 1");
        s.wrongFair(Sentences.lines("hoop 9 oval 1", 8) + "; |hoop 9 oval 1");
        s.wrongFair(Sentences.lines("person 1", 6) + ";  |person 1");
        HoopFair f = Texts.of(Sentences.lines("block 1 1 side 1 prize 1", 9));
        s.wrongFair(f, "block 2 2 side 1 prize 1;|block 60");
        s.wrongFair(f, "block 2 2 side 1 prize 1;|block");
        s.due(() -> Texts.fair(f, "block 2 2 side 1 prize 1;price 3"), 2);
        s.wrongFair(f, "price 4; |block");
        s.due(() -> Texts.fair(f, Sentences.lines("person 3", 6) + ";" + Sentences.lines("hoop 3 oval 0", 8)), 3);
        s.wrongFair(f, "|hoop x");
        s.wrongFair(f, " |person 1000");
        s.due(() -> f.count(9), 3);
    }

    private void textsLength() {
        s.says("or the text's length, if more must come.");
        String[] fairs = {"block|", "block 1|", "block 1 1|", "block 1 1 side|", "block 1 1 side 1|", "block 1 1 side 1 prize|", "hoop|",
            "hoop 5|", "hoop 5 oval|", "person|", "price|", "bounce|", "knock|", "counts|", "price 1;|", "price 1; |", "price   |"};
        for (String text : fairs) {
            s.wrongFair(text);
        }
        String[] laws = {"far|", "far 1 if|", "far 1 if   |", "far 1 if not|", "far 1 if (|", "far 1 if (wet|", "far 1 if 1|",
            "far 1 if 1 +|", "far 1 if 1 <|", "far 1 if 1 < 2 +|", "far 1 if wet and|", "far 1 if wet or|", "far 1;|", "far 1 ; |"};
        for (String text : laws) {
            s.wrongLaw(text);
        }
        s.wrongFair("price" + " ".repeat(395) + "|");
    }

    private void nothingStays() {
        s.says("Of a wrong text nothing stays.");
        HoopFair f = Texts.of("block 1 1 side 1 prize 1;hoop 5 oval 0;person 1;price 2;bounce 2;knock 2;counts 0");
        s.law(f, "far 1", 1);
        f.skill(0, 3);
        s.wrongFair(f, "block 2 2 side 2 prize 2;hoop 6 oval 0;person 2;price 3;bounce 3;knock 3;counts 1;|x");
        int[] counts = {1, 1, 1, 1, 1, 0, 0, 0, 0, 2, 2, 2, 0, 0, 1};
        for (int what = 0; what < counts.length; what++) {
            int w = what;
            s.due(() -> f.count(w), counts[what]);
        }
        s.wrongFair(f, "block 9 9 side 9 prize 9 |9");
        s.due(() -> f.block(0, 0), 1);
        s.due(() -> f.block(0, 2), 1);
        s.wrongLaw(f, "far 2;right 2;|x");
        s.due(() -> f.aims(0, 0, 0, 0, 0, 0), 0);
        s.due(() -> f.aims(0, 0, 0, 0, 0, 1), 1);
        s.due(() -> f.count(4), 1);
        // Nor does it show in what comes later: VELVET, WET.
        s.wrongFair(f, "block 2 2 side 2 prize 2 velvet;hoop 6 oval 0 wet;|x");
        s.due(() -> Texts.fair(f, "block 3 3 side 3 prize 3;person 5;hoop 7 oval 0"), 2);
        s.due(() -> f.block(1, 0), 3);
        s.due(() -> f.block(1, 4), 0);
        s.due(() -> f.person(1, 0), 5);
        s.due(() -> f.hoop(1, 2), 0);
    }
}
