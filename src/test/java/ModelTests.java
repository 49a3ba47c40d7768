import java.util.Random;

/** Long runs of calls, each answered by the program and by NaiveFair. */
public final class ModelTests {
    private static final Check CHECK = new Check("ModelTests");

    private final Random random;
    private final String title;
    private final HoopFair fair = new HoopFair();
    private final NaiveFair naive = new NaiveFair();
    private int blocks = 0;
    private int hoops = 0;
    private int people = 0;
    private int dear = 0;

    private ModelTests(int seed) {
        random = new Random(seed);
        title = "run " + seed;
    }

    public static void main(String[] args) {
        int from = args.length > 0 ? Integer.parseInt(args[0]) : 1;
        int runs = args.length > 1 ? Integer.parseInt(args[1]) : 220;
        for (int seed = from; seed < from + runs; seed++) {
            int before = CHECK.wrongOnes();
            new ModelTests(seed).run(250);
            if (CHECK.wrongOnes() > before) {
                break;
            }
        }
        for (int seed = from; seed < from + runs * 40; seed++) {
            new ModelTests(seed).readOnly();
        }
        CHECK.end();
    }

    // ---- drawing what is asked

    private int upTo(int most) {
        return random.nextInt(most + 1);
    }

    private int between(int low, int high) {
        return low + random.nextInt(high - low + 1);
    }

    private boolean rarely(int one) {
        return random.nextInt(one) == 0;
    }

    private static final int[] ODD = {-1, -2, 60, 40, 100, Integer.MAX_VALUE, Integer.MIN_VALUE, 10, 8, 6};

    /** Mostly one that is; now and then any other number. */
    private int some(int many) {
        return many == 0 || rarely(60) ? ODD[upTo(ODD.length - 1)] : random.nextInt(many);
    }

    private int place(int low, int high) {
        return rarely(70) ? ODD[upTo(ODD.length - 1)] : between(low, high);
    }

    /** Where throws mostly come near a block, so that they are worth the asking. */
    private int placeNear() {
        if (blocks > 0 && !rarely(3)) {
            return Math.max(0, Math.min(59, naive.now.blocks.get(random.nextInt(blocks)).x + between(-2, 2)));
        }
        return place(Math.max(0, middleX - 7), Math.min(59, middleX + 7));
    }

    private int paceNear() {
        if (blocks > 0 && !rarely(3)) {
            return Math.min(11, (naive.now.blocks.get(random.nextInt(blocks)).y + between(0, 2)) / 3);
        }
        return place(Math.max(0, middleY / 3 - 2), Math.min(11, middleY / 3 + 2));
    }

    // ---- drawing texts

    private int middleX = 20;
    private int middleY = 12;

    private String fairLine() {
        switch (upTo(11)) {
            case 0, 1, 2, 3:
                return "block " + near(middleX, 59) + " " + near(middleY, 39) + " side " + between(1, rarely(3) ? 9 : 3)
                        + " prize " + (rarely(3) ? upTo(999) : upTo(9) * 10) + (rarely(3) ? " velvet" : "");
            case 4, 5, 6:
                int across = between(2, 15);
                return "hoop " + across + " oval " + (rarely(2) ? 0 : upTo(Math.min(9, across - 1))) + (rarely(2) ? " wet" : "");
            case 7:
                return "person " + upTo(99);
            case 8:
                return "price " + upTo(rarely(2) ? 99 : 9);
            case 9:
                return "bounce " + upTo(3);
            case 10:
                return "knock " + upTo(9);
            default:
                return "counts " + upTo(1);
        }
    }

    private int near(int middle, int most) {
        return rarely(6) ? upTo(most) : Math.max(0, Math.min(most, middle + between(-6, 6)));
    }

    private String fairText() {
        StringBuilder text = new StringBuilder();
        int lines = rarely(12) ? between(13, 15) : between(1, 9);
        for (int i = 0; i < lines; i++) {
            text.append(i > 0 ? ";" : "").append(fairLine());
        }
        return text.toString();
    }

    private String part() {
        String[] parts = {"who", "hoop", "from", "height", "pace", "skill", "throws"};
        return rarely(3) ? String.valueOf(upTo(rarely(4) ? 999 : 20)) : parts[upTo(parts.length - 1)];
    }

    private String sum() {
        StringBuilder text = new StringBuilder(part());
        while (rarely(4)) {
            text.append("+").append(part());
        }
        return text.toString();
    }

    private String condition(int depth) {
        StringBuilder text = new StringBuilder(atom(depth));
        while (rarely(3)) {
            text.append(rarely(2) ? " and " : " or ").append(atom(depth));
        }
        return text.toString();
    }

    private String atom(int depth) {
        if (depth < 8 && rarely(5)) {
            return "(" + condition(depth + 1) + ")";
        }
        if (depth < 8 && rarely(5)) {
            return "not " + atom(depth + 1);
        }
        return rarely(6) ? "wet" : sum() + (rarely(2) ? "<" : ">") + sum();
    }

    private String lawText() {
        StringBuilder text = new StringBuilder();
        int lines = rarely(10) ? between(10, 13) : between(0, 6);
        for (int i = 0; i < lines; i++) {
            text.append(i > 0 ? ";" : "");
            int kind = upTo(8);
            if (kind < 4) {
                text.append(new String[] {"far ", "short ", "right ", "left "}[kind]).append(rarely(12) ? upTo(62) : upTo(6));
            } else {
                text.append(kind < 7 ? "spread " : "strict ").append(rarely(12) ? upTo(10) : upTo(3));
            }
            text.append(rarely(2) ? " if " + condition(0) : "");
        }
        return text.length() > 400 ? text.substring(0, 400) : text.toString();
    }

    /** Mostly left as it is; else a sign is taken out, put in or changed, or words change places. */
    private String spoilt(String text, int one) {
        String spoilt = text;
        while (rarely(one)) {
            int at = upTo(spoilt.length());
            String signs = " ;()<>+09a!z\u00e9\u0000";
            char sign = signs.charAt(upTo(signs.length() - 1));
            int end = Math.min(spoilt.length(), at + upTo(2));
            spoilt = spoilt.substring(0, at) + (rarely(3) ? "" : sign) + spoilt.substring(end);
        }
        if (rarely(one * 2)) {
            spoilt = spoilt.replaceAll("([;<>+()])", " $1 ");
        }
        return spoilt.length() > 400 ? spoilt.substring(0, 400) : spoilt;
    }

    private void tell(String text) {
        Texts.tape(fair, text);
        naive.tape.clear();
        for (char c : text.toCharArray()) {
            naive.tape.add((int) c);
        }
    }

    private void tellFair(String text) {
        tell(text);
        check("fair of " + text, fair::fair, naive::fair);
        check("fault of " + text, fair::fault, () -> naive.fault);
    }

    private void tellLaw(String text) {
        tell(text);
        check("law of " + text, fair::law, naive::law);
        check("fault of " + text, fair::fault, () -> naive.fault);
    }

    // ---- comparing

    private final StringBuilder latest = new StringBuilder();

    private void check(String what, Check.Call program, Check.Call model) {
        String got = Check.answerOf(program);
        String want = Check.answerOf(model);
        latest.append("\n  ").append(what).append(" -> ").append(want);
        if (got.equals(want)) {
            CHECK.due(what, got, want);
        } else {
            CHECK.due(title + " " + (CHECK.wrongOnes() == 0 ? latest : what), got, want);
        }
    }

    private void checkAll() {
        for (int what = -1; what <= 15; what++) {
            int w = what;
            CHECK.due(title + " count " + what, fair.count(what), naive.count(w));
        }
        checkRows("block", naive.now.blocks.size(), 6, fair::block, naive::block);
        checkRows("hoop", naive.now.hoops.size(), 4, fair::hoop, naive::hoop);
        checkRows("person", naive.now.people.size(), 3, fair::person, naive::person);
        checkRows("lies", 31, 4, fair::lies, naive::lies);
        checkRows("log", 61, 6, fair::log, naive::log);
    }

    interface Asked {
        int answer(int row, int what);
    }

    private void checkRows(String name, int rows, int whats, Asked program, Asked model) {
        for (int row = 0; row < rows; row++) {
            for (int what = 0; what < whats; what++) {
                CHECK.due(title + " " + name + " " + row + " " + what, program.answer(row, what), model.answer(row, what));
            }
        }
    }

    // ---- runs

    private void readOnly() {
        for (int i = 0; i < 4; i++) {
            tellFair(spoilt(fairText(), 2));
            tellLaw(spoilt(lawText(), 2));
        }
    }

    private void run(int calls) {
        middleX = upTo(59);
        middleY = upTo(30);
        if (!rarely(15)) {
            tellFair("person " + upTo(99) + ";hoop " + between(4, 12) + " oval " + upTo(3) + ";" + fairText());
        }
        if (!rarely(4)) {
            tellLaw(lawText());
        }
        for (int i = 0; i < calls; i++) {
            if (i % 10 == 0) {
                checkAll();
            }
            // The numbers of blocks, hoops and people may have changed by a text, or by going back.
            blocks = naive.now.blocks.size();
            hoops = naive.now.hoops.size();
            people = naive.now.people.size();
            int kind = upTo(99);
            if (kind < 32) {
                tossOne();
            } else if (kind < 46) {
                changeOne();
            } else if (kind < 62) {
                askOne();
            } else if (kind < 74) {
                askOdds();
            } else if (kind < 86) {
                askPlans();
            } else {
                askRest();
            }
        }
        checkAll();
    }

    private void tossOne() {
        int p = some(people);
        int h = some(hoops);
        int from = placeNear();
        int height = place(0, 5);
        int pace = paceNear();
        check("toss " + p + " " + h + " " + from + " " + height + " " + pace, () -> fair.toss(p, h, from, height, pace),
                () -> naive.toss(p, h, from, height, pace));
    }

    private void changeOne() {
        int p = some(people);
        int h = some(hoops);
        int b = some(blocks);
        int n = place(0, 99);
        switch (upTo(13)) {
            case 0:
                check("clear", fair::clear, naive::clear);
                break;
            case 1:
                boolean wet = rarely(2);
                check("wets " + h + wet, () -> fair.wets(h, wet), () -> naive.wets(h, wet));
                break;
            case 2:
                check("skill " + p + " " + n, () -> fair.skill(p, n), () -> naive.skill(p, n));
                break;
            case 3, 4, 5:
                int x = rarely(9) ? n : near(middleX, 59);
                int y = rarely(9) ? n : near(middleY, 39);
                check("move " + b + " " + x + " " + y, () -> fair.move(b, x, y), () -> naive.move(b, x, y));
                break;
            case 6, 7, 8, 9:
                int many = between(1, rarely(5) ? 14 : 3);
                for (int i = 0; i < many; i++) {
                    check("undo", fair::undo, naive::undo);
                }
                break;
            case 10:
                int seed = random.nextInt();
                check("seed " + seed, () -> fair.seed(seed), () -> naive.seed(seed));
                break;
            case 11:
                check("image", () -> {
                    fair.image();
                    return 0;
                }, () -> {
                    naive.image();
                    return 0;
                });
                break;
            case 12:
                if (rarely(3)) {
                    check("back", fair::back, naive::back);
                }
                break;
            default:
                if (rarely(2)) {
                    tellFair(spoilt(fairText(), 4));
                } else {
                    tellLaw(spoilt(lawText(), 4));
                }
        }
    }

    private void askOne() {
        int p = some(people);
        int h = some(hoops);
        int b = some(blocks);
        int what = upTo(7) - 1;
        int from = place(0, 59);
        int height = place(0, 5);
        int pace = place(0, 11);
        int x = rarely(5) ? place(-99, 99) : near(middleX, 59);
        int y = rarely(5) ? place(-99, 99) : near(middleY, 39);
        int strict = rarely(4) ? place(0, 99) : upTo(3);
        int oval = place(0, 9);
        switch (upTo(9)) {
            case 0:
                check("block " + b + " " + what, () -> fair.block(b, what), () -> naive.block(b, what));
                break;
            case 1:
                check("hoop " + h + " " + what, () -> fair.hoop(h, what), () -> naive.hoop(h, what));
                break;
            case 2:
                check("person " + p + " " + what, () -> fair.person(p, what), () -> naive.person(p, what));
                break;
            case 3, 4:
                check("aims " + p + " " + h + " " + from + " " + height + " " + pace + " " + what,
                        () -> fair.aims(p, h, from, height, pace, what), () -> naive.aims(p, h, from, height, pace, what));
                break;
            case 5:
                int dx = rarely(9) ? place(-61, 61) : between(-5, 5);
                int dy = rarely(9) ? place(-61, 61) : between(-5, 5);
                check("over " + h + " " + b + " " + dx + " " + dy, () -> fair.over(h, b, dx, dy), () -> naive.over(h, b, dx, dy));
                break;
            case 6:
                check("spots " + h + " " + b, () -> fair.spots(h, b), () -> naive.spots(h, b));
                check("narrowest " + b + " " + oval, () -> fair.narrowest(b, oval), () -> naive.narrowest(b, oval));
                break;
            case 7:
                int k = rarely(4) ? ODD[upTo(ODD.length - 1)] : upTo(61);
                check("lies " + k + " " + what, () -> fair.lies(k, what), () -> naive.lies(k, what));
                check("log " + k + " " + what, () -> fair.log(k, what), () -> naive.log(k, what));
                break;
            default:
                check("comes " + h + " " + x + " " + y + " " + strict, () -> fair.comes(h, x, y, strict),
                        () -> naive.comesTo(h, x, y, strict));
        }
    }

    private void askOdds() {
        int p = some(people);
        int h = some(hoops);
        int b = rarely(4) ? -1 : some(blocks);
        int from = placeNear();
        int height = place(0, 5);
        int pace = paceNear();
        int what = between(-1, rarely(4) ? 3 : 2);
        boolean much = rarely(2);
        String call = p + " " + h + " " + from + " " + height + " " + pace + " " + b + " " + what + much;
        switch (upTo(6)) {
            case 0:
                check("ways " + call, () -> fair.ways(p, h, from, height, pace, b), () -> naive.ways(p, h, from, height, pace, b));
                break;
            case 1:
                check("worth " + call, () -> fair.worth(p, h, from, height, pace), () -> naive.worth(p, h, from, height, pace));
                break;
            case 2:
                check("how " + call, () -> fair.how(p, h, from, b, what), () -> naive.how(p, h, from, b, what));
                break;
            case 3:
                check("reached " + call, () -> fair.reached(p, h, from), () -> naive.reached(p, h, from));
                break;
            case 4:
                check("earns " + call, () -> fair.earns(p, h, from), () -> naive.earns(p, h, from));
                break;
            case 5:
                check("till " + call, () -> fair.till(p, h, from, height, pace, b), () -> naive.till(p, h, from, height, pace, b));
                break;
            default:
                check("stop " + call, () -> fair.stop(p, h, from, height, pace, much),
                        () -> naive.stop(p, h, from, height, pace, much));
        }
    }

    private void askPlans() {
        int p = some(people);
        int h = some(hoops);
        int b = rarely(4) ? -1 : some(blocks);
        int from = placeNear();
        int what = between(rarely(5) ? -1 : 0, rarely(5) ? 3 : 2);
        int set = rarely(5) ? random.nextInt() : upTo(255);
        switch (upTo(9)) {
            case 0:
                if (dear++ < 3) {
                    check("where " + p + " " + h + " " + b, () -> fair.where(p, h, b), () -> naive.where(p, h, b));
                }
                break;
            case 1:
                if (dear++ < 3) {
                    int k = between(-2, 3);
                    check("places " + p + " " + h + " " + k, () -> fair.places(p, h, k), () -> naive.places(p, h, k));
                    check("places " + p + " " + h + " -1", () -> fair.places(p, h, -1), () -> naive.places(p, h, -1));
                }
                break;
            case 2, 3, 4:
                check("large " + p + " " + h + " " + from + " " + b, () -> fair.large(p, h, from, b), () -> naive.large(p, h, from, b));
                break;
            case 5, 6, 7:
                check("arranged " + p + " " + h + " " + from + " " + b, () -> fair.arranged(p, h, from, b),
                        () -> naive.arranged(p, h, from, b));
                break;
            default:
                check("game " + p + " " + from + " " + set + " " + what, () -> fair.game(p, from, set, what),
                        () -> naive.game(p, from, set, what));
        }
    }

    private void askRest() {
        int p = some(people);
        int h = some(hoops);
        int b = some(blocks);
        int o = some(blocks);
        int from = placeNear();
        int pace = paceNear();
        int n = rarely(6) ? place(-1, 61) : upTo(40);
        boolean most = rarely(2);
        int x = rarely(5) ? place(-1, 60) : near(middleX, 59);
        int y = rarely(5) ? place(-1, 40) : near(middleY, 39);
        String call = p + " " + h + " " + from + " " + pace + " " + n + " " + b + " " + o + most;
        switch (upTo(9)) {
            case 0:
                gaugeOne();
                break;
            case 1:
                check("hidden", fair::hidden, naive::hidden);
                break;
            case 2:
                check("near " + x + " " + y + " " + n, () -> fair.near(x, y, n), () -> naive.near(x, y, n));
                break;
            case 3:
                check("gap " + call, () -> fair.gap(b, o), () -> naive.gap(b, o));
                break;
            case 4:
                check("trial " + call, () -> fair.trial(p, h, from, pace, n), () -> naive.trial(p, h, from, pace, n));
                break;
            case 5:
                check("span " + call, () -> fair.span(p, h, from, pace, n, most), () -> naive.span(p, h, from, pace, n, most));
                break;
            case 6:
                int of = rarely(2) ? -1 : p;
                check("robbed " + of, () -> fair.robbed(of), () -> naive.robbed(of));
                break;
            case 7:
                check("led " + b + most, () -> fair.led(b, most), () -> naive.led(b, most));
                break;
            case 8:
                int end = rarely(3) ? ODD[upTo(ODD.length - 1)] : upTo(400);
                check("end " + end, () -> fair.end(end), () -> naive.end(end));
                break;
            default:
                int[] f = {random.nextInt(), random.nextInt(), random.nextInt(), random.nextInt(), random.nextInt()};
                for (int i = 0; i < 8; i++) {
                    check("feed", () -> fair.feed(f[0], f[1], f[2], f[3], f[4]), () -> naive.feed(f));
                }
                int cut = upTo(400);
                check("end " + cut, () -> fair.end(cut), () -> naive.end(cut));
                check("fair of numbers", fair::fair, naive::fair);
                check("fault of numbers", fair::fault, () -> naive.fault);
        }
    }

    private void gaugeOne() {
        StringBuilder text = new StringBuilder();
        int many = rarely(5) ? upTo(9) : upTo(3);
        int limit = between(1, 9);
        for (int i = 0; i < many; i++) {
            int side = rarely(30) ? upTo(10) : between(1, 9);
            boolean goes = rarely(12) ? rarely(2) : side <= limit;
            text.append((char) side).append((char) (rarely(30) ? upTo(255) : goes ? 1 : 0));
        }
        text.append(rarely(12) ? "\u0001" : "");
        boolean next = rarely(2);
        tell(text.toString());
        check("gauge " + next, () -> fair.gauge(next), () -> naive.gauge(next));
        check("end 1", () -> fair.end(1), () -> naive.end(1));
    }
}
