import java.util.ArrayList;
import java.util.List;
import java.util.NoSuchElementException;
import java.util.function.IntPredicate;

/**
 * The document once more, in the plainest form, for comparison: lists and copies without thought of their number, all
 * places, all rows, all orders of prizes tried one by one. It shares nothing with the program but the document.
 */
final class NaiveFair {
    static final int NONE = -1;

    static final class Block implements Cloneable {
        int x, y, side, prize;
        boolean velvet;
    }

    static final class Hoop {
        int across, oval;
        boolean wet;
    }

    static final class Person {
        int skill, thrown, counted;
    }

    record Lying(int hoop, int x, int y, boolean aslant) {
    }

    record Row(int who, int hoop, int x, int y, int came, int knocked) {
    }

    /** All but the tape, the fault and the image. */
    static final class All {
        List<Block> blocks = new ArrayList<>();
        List<Hoop> hoops = new ArrayList<>();
        List<Person> people = new ArrayList<>();
        List<Lying> lying = new ArrayList<>();
        List<Row> log = new ArrayList<>();
        NaiveLaw law = null;
        int texts = 0, price = 6, bounce = 1, knock = 0, counts = 0, taken = 0, paid = 0, seed = 1;

        All copy() {
            All copy = new All();
            for (Block b : blocks) {
                Block n = new Block();
                n.x = b.x;
                n.y = b.y;
                n.side = b.side;
                n.prize = b.prize;
                n.velvet = b.velvet;
                copy.blocks.add(n);
            }
            for (Hoop h : hoops) {
                Hoop n = new Hoop();
                n.across = h.across;
                n.oval = h.oval;
                n.wet = h.wet;
                copy.hoops.add(n);
            }
            for (Person p : people) {
                Person n = new Person();
                n.skill = p.skill;
                n.thrown = p.thrown;
                n.counted = p.counted;
                copy.people.add(n);
            }
            copy.lying.addAll(lying);
            copy.log.addAll(log);
            copy.law = law;
            copy.texts = texts;
            copy.price = price;
            copy.bounce = bounce;
            copy.knock = knock;
            copy.counts = counts;
            copy.taken = taken;
            copy.paid = paid;
            copy.seed = seed;
            return copy;
        }
    }

    All now = new All();
    All image = null;
    List<All> past = new ArrayList<>();
    List<Integer> tape = new ArrayList<>();
    int fault = NONE;

    // ---- exceptions, in the order in which they are told

    private static void index(boolean right) {
        if (!right) {
            throw new IndexOutOfBoundsException();
        }
    }

    private static void argument(boolean right) {
        if (!right) {
            throw new IllegalArgumentException();
        }
    }

    private static void state(boolean right) {
        if (!right) {
            throw new IllegalStateException();
        }
    }

    private static void element(boolean right) {
        if (!right) {
            throw new NoSuchElementException();
        }
    }

    private static boolean in(int n, int low, int high) {
        return low <= n && n <= high;
    }

    private Block block(int b) {
        index(in(b, 0, now.blocks.size() - 1));
        return now.blocks.get(b);
    }

    private Hoop hoop(int h) {
        index(in(h, 0, now.hoops.size() - 1));
        return now.hoops.get(h);
    }

    private Person person(int p) {
        index(in(p, 0, now.people.size() - 1));
        return now.people.get(p);
    }

    private static void isThrow(int from, int height, int pace) {
        argument(in(from, 0, 59) && in(height, 0, 5) && in(pace, 0, 11));
    }

    private void act() {
        past.add(now.copy());
        if (past.size() > 12) {
            past.remove(0);
        }
    }

    // ---- texts

    int feed(int... numbers) {
        if (tape.size() + 20 > 400) {
            return NONE;
        }
        for (int n : numbers) {
            tape.add(n >> 24 & 255);
            tape.add(n >> 16 & 255);
            tape.add(n >> 8 & 255);
            tape.add(n & 255);
        }
        return tape.size();
    }

    boolean end(int n) {
        if (n < 0 || n > tape.size()) {
            return false;
        }
        tape = new ArrayList<>(tape.subList(0, n));
        return true;
    }

    private String useUp() {
        StringBuilder text = new StringBuilder();
        for (int b : tape) {
            text.append((char) b);
        }
        tape.clear();
        return text.toString();
    }

    int fair() {
        All draft = now.copy();
        fault = NaiveTexts.fair(useUp(), draft);
        argument(fault == NONE);
        if (now.texts == 12) {
            throw new UnsupportedOperationException();
        }
        draft.texts++;
        now = draft;
        past.clear();
        return now.texts;
    }

    int law() {
        String text = useUp();
        fault = NaiveTexts.lawFault(text);
        argument(fault == NONE);
        now.law = new NaiveLaw(text);
        past.clear();
        return now.law.lines();
    }

    // ---- what there is

    private int front(int b) {
        int bits = 0;
        for (int o = 0; o < now.blocks.size(); o++) {
            Block near = now.blocks.get(o);
            Block far = now.blocks.get(b);
            if (near.y < far.y && Math.abs(near.x - far.x) < (near.side + far.side) / 2.0) {
                bits |= 1 << o;
            }
        }
        return bits;
    }

    int block(int b, int what) {
        Block k = block(b);
        element(in(what, 0, 5));
        return new int[] {k.x, k.y, k.side, k.prize, k.velvet ? 1 : 0, front(b)}[what];
    }

    int hoop(int h, int what) {
        Hoop k = hoop(h);
        element(in(what, 0, 3));
        int widest = 0;
        for (int side = 9; side >= 1 && widest == 0; side--) {
            widest = isOver(k.across, k.oval, 0, side, 0, 0) ? side : 0;
        }
        return new int[] {k.across, k.oval, k.wet ? 1 : 0, widest}[what];
    }

    int person(int p, int what) {
        Person k = person(p);
        element(in(what, 0, 2));
        return new int[] {k.skill, k.thrown, k.counted}[what];
    }

    int lies(int k, int what) {
        element(in(what, 0, 3));
        if (!in(k, 0, now.lying.size() - 1)) {
            return NONE;
        }
        Lying l = now.lying.get(k);
        return new int[] {l.hoop, l.x, l.y, l.aslant ? 1 : 0}[what];
    }

    int log(int ago, int what) {
        element(in(what, 0, 5));
        if (!in(ago, 0, now.log.size() - 1)) {
            return -99;
        }
        Row r = now.log.get(now.log.size() - 1 - ago);
        return new int[] {r.who, r.hoop, r.x, r.y, r.came, r.knocked}[what];
    }

    int count(int what) {
        if (!in(what, 0, 14)) {
            return NONE;
        }
        int thrown = now.people.stream().mapToInt(p -> p.thrown).sum();
        return new int[] {now.blocks.size(), now.hoops.size(), now.people.size(), now.texts,
            now.law == null ? NONE : now.law.lines(), now.taken, now.paid, thrown, now.lying.size(), now.price, now.bounce,
            now.knock, now.counts, now.log.size(), past.size()}[what];
    }

    // ---- a throw

    record Aimed(int x, int y, int spread, int strict) {
    }

    private Aimed aimed(int p, int h, int from, int height, int pace, int skill, int thrown) {
        if (now.law == null) {
            return new Aimed(from, 3 * pace, Math.max(0, 2 - skill / 25), 0);
        }
        int[] facts = {p, h, from, height, pace, skill, thrown};
        int[] sums = now.law.sums(facts, now.hoops.get(h).wet);
        int x = from + sums[2] - sums[3];
        int y = 3 * pace + sums[0] - sums[1];
        return new Aimed(x, y, Math.max(0, Math.min(4, sums[4]) - skill / 25), sums[5]);
    }

    private Aimed aimed(int p, int h, int from, int height, int pace) {
        Person k = now.people.get(p);
        return aimed(p, h, from, height, pace, k.skill, k.thrown);
    }

    static boolean isOver(int across, int oval, int strict, int side, int dx, int dy) {
        long a = Math.max(1, across - oval - strict);
        long b = Math.max(1, across - strict);
        for (int u : new int[] {2 * dx + side, 2 * dx - side}) {
            for (int v : new int[] {2 * dy + side, 2 * dy - side}) {
                if ((long) u * u * b * b + (long) v * v * a * a > a * a * b * b) {
                    return false;
                }
            }
        }
        return true;
    }

    private int leastOver(int h, int x, int y, int strict) {
        Hoop k = now.hoops.get(h);
        for (int b = 0; b < now.blocks.size(); b++) {
            Block c = now.blocks.get(b);
            if (isOver(k.across, k.oval, strict, c.side, x - c.x, y - c.y)) {
                return b;
            }
        }
        return NONE;
    }

    private boolean touches(int h, int x, int y, int strict, boolean withVelvet) {
        Hoop k = now.hoops.get(h);
        int a = Math.max(1, k.across - k.oval - strict);
        int b = Math.max(1, k.across - strict);
        boolean any = false;
        for (Block c : now.blocks) {
            boolean one = 2 * Math.abs(x - c.x) < a + c.side && 2 * Math.abs(y - c.y) < b + c.side;
            any |= one && (withVelvet || !c.velvet);
        }
        return any;
    }

    record Came(int what, int y) {
    }

    private Came comes(int h, int x, int y, int strict) {
        int first = leastOver(h, x, y, strict);
        if (first != NONE) {
            return new Came(first, y);
        }
        int rest = y;
        if (touches(h, x, y, strict, false)) {
            rest = y + now.bounce;
            int second = leastOver(h, x, rest, strict);
            if (second != NONE) {
                return new Came(second, rest);
            }
        }
        return new Came(touches(h, x, rest, strict, true) ? -2 : NONE, rest);
    }

    private int draw() {
        now.seed = (int) (1103515245L * now.seed + 12345L);
        return now.seed >> 16 & 32767;
    }

    private Row hurl(int p, int h, int from, int height, int pace) {
        Person who = now.people.get(p);
        Aimed aimed = aimed(p, h, from, height, pace);
        if (who.thrown % 3 == 0) {
            now.taken += now.price;
        }
        int many = 2 * aimed.spread + 1;
        int x = aimed.x - aimed.spread + draw() % many;
        int y = aimed.y - aimed.spread + draw() % many;
        Came came = comes(h, x, y, aimed.strict);
        int knocked = NONE;
        if (came.what >= 0) {
            now.paid += now.blocks.get(came.what).prize;
            who.counted++;
        } else {
            List<Lying> ahead = new ArrayList<>(now.lying);
            ahead.add(new Lying(h, x, came.y, came.what == -2));
            if (ahead.size() > 30) {
                ahead.remove(0);
            }
            now.lying = ahead;
            if (now.knock > 0) {
                knocked = knock(x, came.y, aimed.strict);
            }
        }
        Row row = new Row(p, h, x, y, came.what, knocked);
        now.log.add(row);
        if (now.log.size() > 60) {
            now.log.remove(0);
        }
        who.thrown++;
        who.skill = Math.min(99, who.skill + 1);
        return row;
    }

    private int knock(int x, int y, int strict) {
        for (int k = 0; k < now.lying.size() - 1; k++) {
            Lying old = now.lying.get(k);
            if (!old.aslant || Math.abs(old.x - x) > now.knock || Math.abs(old.y - y) > now.knock) {
                continue;
            }
            int nx = old.x + Integer.compare(old.x, x);
            int ny = old.y + Integer.compare(old.y, y);
            int b = leastOver(old.hoop, nx, ny, strict);
            if (b == NONE) {
                now.lying.set(k, new Lying(old.hoop, nx, ny, touches(old.hoop, nx, ny, strict, true)));
                return NONE;
            }
            now.lying.remove(k);
            if (now.counts == 0) {
                return NONE;
            }
            now.paid += now.blocks.get(b).prize;
            return b;
        }
        return NONE;
    }

    int aims(int p, int h, int from, int height, int pace, int what) {
        person(p);
        hoop(h);
        isThrow(from, height, pace);
        argument(in(what, 0, 3));
        Aimed a = aimed(p, h, from, height, pace);
        return new int[] {a.x, a.y, a.spread, a.strict}[what];
    }

    int toss(int p, int h, int from, int height, int pace) {
        person(p);
        hoop(h);
        isThrow(from, height, pace);
        act();
        return hurl(p, h, from, height, pace).came;
    }

    int clear() {
        act();
        int many = now.lying.size();
        now.lying = new ArrayList<>();
        return many;
    }

    boolean wets(int h, boolean wet) {
        hoop(h);
        act();
        boolean changed = now.hoops.get(h).wet != wet;
        now.hoops.get(h).wet = wet;
        return changed;
    }

    int skill(int p, int n) {
        person(p);
        argument(in(n, 0, 99));
        act();
        int was = now.people.get(p).skill;
        now.people.get(p).skill = n;
        return was;
    }

    private int gapOf(Block a, Block b, int x, int y) {
        int byX = 2 * Math.abs(x - b.x) - a.side - b.side;
        int byY = 2 * Math.abs(y - b.y) - a.side - b.side;
        return Math.max(byX, byY);
    }

    int move(int b, int x, int y) {
        Block k = block(b);
        argument(in(x, 0, 59) && in(y, 0, 39));
        for (Block o : now.blocks) {
            state(o == k || gapOf(k, o, x, y) >= 0);
        }
        act();
        Block moved = now.blocks.get(b);
        int far = Math.max(Math.abs(x - moved.x), Math.abs(y - moved.y));
        moved.x = x;
        moved.y = y;
        return far;
    }

    // ---- how a hoop goes over

    boolean over(int h, int b, int dx, int dy) {
        Hoop k = hoop(h);
        Block c = block(b);
        argument(in(dx, -60, 60) && in(dy, -60, 60));
        return isOver(k.across, k.oval, 0, c.side, dx, dy);
    }

    int spots(int h, int b) {
        Hoop k = hoop(h);
        Block c = block(b);
        int many = 0;
        for (int dx = -20; dx <= 20; dx++) {
            for (int dy = -20; dy <= 20; dy++) {
                many += isOver(k.across, k.oval, 0, c.side, dx, dy) ? 1 : 0;
            }
        }
        return many;
    }

    int narrowest(int b, int oval) {
        Block c = block(b);
        argument(in(oval, 0, 9));
        for (int across = 2; across <= 15; across++) {
            if (across > oval && isOver(across, oval, 0, c.side, 0, 0)) {
                return across;
            }
        }
        return NONE;
    }

    int comesTo(int h, int x, int y, int strict) {
        hoop(h);
        argument(in(x, -99, 99) && in(y, -99, 99) && in(strict, 0, 99));
        return comes(h, x, y, strict).what;
    }

    // ---- odds

    private int[] allWays(int h, Aimed a) {
        int[] ways = new int[10];
        for (int x = a.x - a.spread; x <= a.x + a.spread; x++) {
            for (int y = a.y - a.spread; y <= a.y + a.spread; y++) {
                int came = comes(h, x, y, a.strict).what;
                if (came >= 0) {
                    ways[came]++;
                }
            }
        }
        return ways;
    }

    private static int square(Aimed a) {
        return (2 * a.spread + 1) * (2 * a.spread + 1);
    }

    int ways(int p, int h, int from, int height, int pace, int b) {
        person(p);
        hoop(h);
        if (b != NONE) {
            block(b);
        }
        isThrow(from, height, pace);
        int[] ways = allWays(h, aimed(p, h, from, height, pace));
        int any = 0;
        for (int one : ways) {
            any += one;
        }
        return b == NONE ? any : ways[b];
    }

    private int worthOf(int h, Aimed a) {
        int[] ways = allWays(h, a);
        long sum = 0;
        for (int b = 0; b < now.blocks.size(); b++) {
            sum += (long) ways[b] * now.blocks.get(b).prize;
        }
        return (int) (sum * 100 / square(a));
    }

    private int oddsOf(int h, Aimed a, int b) {
        return allWays(h, a)[b] * 10000 / square(a);
    }

    int worth(int p, int h, int from, int height, int pace) {
        person(p);
        hoop(h);
        isThrow(from, height, pace);
        return worthOf(h, aimed(p, h, from, height, pace));
    }

    private int[] best(int p, int h, int from, int b) {
        int[] best = {-1, 0, 0};
        for (int height = 0; height <= 5; height++) {
            for (int pace = 0; pace <= 11; pace++) {
                int odds = oddsOf(h, aimed(p, h, from, height, pace), b);
                if (odds > best[0]) {
                    best = new int[] {odds, height, pace};
                }
            }
        }
        return best;
    }

    int how(int p, int h, int from, int b, int what) {
        person(p);
        hoop(h);
        block(b);
        argument(in(from, 0, 59));
        element(in(what, 0, 2));
        return best(p, h, from, b)[what];
    }

    int where(int p, int h, int b) {
        person(p);
        hoop(h);
        block(b);
        int place = NONE;
        int most = 0;
        for (int from = 59; from >= 0; from--) {
            int odds = best(p, h, from, b)[0];
            if (odds > 0 && odds >= most) {
                most = odds;
                place = from;
            }
        }
        return place;
    }

    private int reachedFrom(int p, int h, int from) {
        int bits = 0;
        for (int height = 0; height <= 5; height++) {
            for (int pace = 0; pace <= 11; pace++) {
                int[] ways = allWays(h, aimed(p, h, from, height, pace));
                for (int b = 0; b < now.blocks.size(); b++) {
                    bits |= ways[b] > 0 ? 1 << b : 0;
                }
            }
        }
        return bits;
    }

    int reached(int p, int h, int from) {
        person(p);
        hoop(h);
        argument(in(from, 0, 59));
        return reachedFrom(p, h, from);
    }

    int places(int p, int h, int k) {
        person(p);
        hoop(h);
        int[] reach = new int[60];
        int all = 0;
        for (int from = 0; from < 60; from++) {
            reach[from] = reachedFrom(p, h, from);
            all |= reach[from];
        }
        for (int many = 0; many <= 6; many++) {
            List<Integer> row = row(reach, all, 0, many);
            if (row != null) {
                return k == NONE ? many : in(k, 0, many - 1) ? row.get(k) : NONE;
            }
        }
        return NONE;
    }

    private static List<Integer> row(int[] reach, int rest, int start, int many) {
        if (rest == 0 && many == 0) {
            return new ArrayList<>();
        }
        for (int from = start; from < 60 && many > 0; from++) {
            if ((rest & reach[from]) != 0) {
                List<Integer> behind = row(reach, rest & ~reach[from], from + 1, many - 1);
                if (behind != null) {
                    behind.add(0, from);
                    return behind;
                }
            }
        }
        return null;
    }

    int earns(int p, int h, int from) {
        person(p);
        hoop(h);
        argument(in(from, 0, 59));
        int most = 0;
        for (int height = 0; height <= 5; height++) {
            for (int pace = 0; pace <= 11; pace++) {
                most = Math.max(most, worthOf(h, aimed(p, h, from, height, pace)));
            }
        }
        return now.price * 100 / 3 - most;
    }

    int large(int p, int h, int from, int b) {
        person(p);
        hoop(h);
        Block c = block(b);
        argument(in(from, 0, 59));
        int was = c.side;
        int found = NONE;
        for (int side = 1; side <= 9 && found == NONE; side++) {
            c.side = side;
            if ((long) best(p, h, from, b)[0] * c.prize * 3 <= now.price * 10000L) {
                found = side;
            }
        }
        c.side = was;
        return found;
    }

    int arranged(int p, int h, int from, int b) {
        person(p);
        hoop(h);
        if (b != NONE) {
            block(b);
        }
        argument(in(from, 0, 59));
        int n = now.blocks.size();
        int[] odds = new int[n];
        for (int i = 0; i < n; i++) {
            odds[i] = best(p, h, from, i)[0];
        }
        leastSum = Long.MAX_VALUE;
        leastOrder = new int[n];
        arrange(odds, new int[n], 0, 0);
        return b == NONE ? (int) leastSum : leastOrder[b];
    }

    private long leastSum;
    private int[] leastOrder;

    private void arrange(int[] odds, int[] order, int at, long sum) {
        if (sum >= leastSum) {
            return;
        }
        if (at == order.length) {
            leastSum = sum;
            leastOrder = order.clone();
            return;
        }
        for (int from = 0; from < order.length; from++) {
            boolean used = false;
            for (int i = 0; i < at; i++) {
                used |= order[i] == from;
            }
            if (!used) {
                order[at] = from;
                arrange(odds, order, at + 1, sum + (long) odds[at] * now.blocks.get(from).prize);
            }
        }
    }

    int till(int p, int h, int from, int height, int pace, int b) {
        Person k = person(p);
        hoop(h);
        block(b);
        isThrow(from, height, pace);
        int sum = 0;
        for (int n = 1; n <= 200; n++) {
            sum += oddsOf(h, aimed(p, h, from, height, pace, Math.min(99, k.skill + n - 1), k.thrown + n - 1), b);
            if (sum >= 10000) {
                return n;
            }
        }
        return NONE;
    }

    int stop(int p, int h, int from, int height, int pace, boolean much) {
        Person k = person(p);
        hoop(h);
        isThrow(from, height, pace);
        int[] much60 = new int[61];
        int sum = 0;
        for (int n = 0; n <= 60; n++) {
            much60[n] = sum - now.price * 100 * ((n + 2) / 3);
            sum += worthOf(h, aimed(p, h, from, height, pace, Math.min(99, k.skill + n), k.thrown + n));
        }
        int best = 0;
        for (int n = 0; n <= 60; n++) {
            best = much60[n] > much60[best] ? n : best;
        }
        return much ? much60[best] : best;
    }

    int game(int p, int from, int hoops, int what) {
        person(p);
        argument(in(from, 0, 59));
        List<int[]> rows = new ArrayList<>();
        for (int h = 0; h < now.hoops.size(); h++) {
            if ((hoops >> h & 1) == 1) {
                int[] row = new int[now.blocks.size()];
                for (int b = 0; b < row.length; b++) {
                    row[b] = best(p, h, from, b)[0] * now.blocks.get(b).prize;
                }
                rows.add(row);
            }
        }
        int n = now.blocks.size();
        state(!rows.isEmpty() && n > 0);
        element(in(what, 0, 2));
        int aimers = -1;
        int rests = 0;
        for (int b = 0; b < n; b++) {
            int c = b;
            aimers = Math.max(aimers, rows.stream().mapToInt(r -> r[c]).min().getAsInt());
        }
        int givers = Integer.MAX_VALUE;
        for (int[] row : rows) {
            givers = Math.min(givers, java.util.Arrays.stream(row).max().getAsInt());
            for (int b = 0; b < n; b++) {
                boolean rest = true;
                for (int other : row) {
                    rest &= other <= row[b];
                }
                for (int[] other : rows) {
                    rest &= other[b] >= row[b];
                }
                rests += rest ? 1 : 0;
            }
        }
        return new int[] {aimers, givers, rests}[what];
    }

    int gauge(boolean next) {
        List<Integer> told = new ArrayList<>(tape);
        tape.clear();
        argument(told.size() % 2 == 0);
        for (int i = 0; i < told.size(); i += 2) {
            argument(in(told.get(i), 1, 9) && in(told.get(i + 1), 0, 1));
        }
        List<int[]> kinds = new ArrayList<>();
        for (int across = 2; across <= 15; across++) {
            for (int oval = 0; oval <= 9; oval++) {
                boolean fits = oval < across;
                for (int i = 0; fits && i < told.size(); i += 2) {
                    fits = isOver(across, oval, 0, told.get(i), 0, 0) == (told.get(i + 1) == 1);
                }
                if (fits) {
                    kinds.add(new int[] {across, oval});
                }
            }
        }
        if (!next) {
            return kinds.size();
        }
        int best = NONE;
        int least = Integer.MAX_VALUE;
        for (int side = 9; side >= 1 && kinds.size() >= 2; side--) {
            int s = side;
            int goes = (int) kinds.stream().filter(k -> isOver(k[0], k[1], 0, s, 0, 0)).count();
            int part = Math.max(goes, kinds.size() - goes);
            if (part <= least) {
                least = part;
                best = side;
            }
        }
        return best;
    }

    // ---- where blocks stand

    private int bits(IntPredicate holds) {
        int bits = 0;
        for (int b = 0; b < now.blocks.size(); b++) {
            bits |= holds.test(b) ? 1 << b : 0;
        }
        return bits;
    }

    int hidden() {
        return bits(b -> front(b) != 0);
    }

    int near(int x, int y, int n) {
        argument(in(x, 0, 59) && in(y, 0, 39) && in(n, 0, 60));
        return bits(b -> in(now.blocks.get(b).x, x - n, x + n) && in(now.blocks.get(b).y, y - n, y + n));
    }

    int gap(int a, int b) {
        Block k = block(a);
        Block o = block(b);
        argument(a != b);
        return gapOf(k, o, k.x, k.y);
    }

    // ---- trials and the log

    private int tried(int p, int h, int from, int pace, int n, int seed) {
        All was = now;
        now = was.copy();
        now.seed = seed;
        int counted = 0;
        for (int i = 0; i < n; i++) {
            Row row = hurl(p, h, from, 2, pace);
            counted += row.came >= 0 ? 1 : 0;
            counted += row.knocked >= 0 ? 1 : 0;
        }
        now = was;
        return counted;
    }

    int trial(int p, int h, int from, int pace, int n) {
        person(p);
        hoop(h);
        isThrow(from, 2, pace);
        argument(in(n, 0, 40));
        return tried(p, h, from, pace, n, now.seed);
    }

    int span(int p, int h, int from, int pace, int n, boolean most) {
        person(p);
        hoop(h);
        isThrow(from, 2, pace);
        argument(in(n, 0, 40));
        List<Integer> counted = new ArrayList<>();
        for (int seed = 1; seed <= 6; seed++) {
            counted.add(tried(p, h, from, pace, n, seed));
        }
        counted.sort(null);
        return counted.get(most ? 5 : 0);
    }

    int robbed(int p) {
        if (p != NONE) {
            person(p);
        }
        int many = 0;
        for (Row r : now.log) {
            boolean asked = p == NONE || r.who == p;
            many += asked && r.came < 0 && comes(r.hoop, r.x, r.y, 0).what >= 0 ? 1 : 0;
        }
        return many;
    }

    int led(int b, boolean latest) {
        block(b);
        int rows = 0;
        int ago = NONE;
        for (int i = 0; i < now.log.size(); i++) {
            Row r = now.log.get(i);
            if (r.came == b || r.knocked == b) {
                rows++;
                ago = now.log.size() - 1 - i;
            }
        }
        return latest ? ago : rows;
    }

    int seed(int n) {
        int was = now.seed;
        now.seed = n;
        return was;
    }

    boolean undo() {
        if (past.isEmpty()) {
            return false;
        }
        now = past.remove(past.size() - 1);
        return true;
    }

    void image() {
        image = now.copy();
    }

    boolean back() {
        if (image == null) {
            return false;
        }
        now = image.copy();
        past.clear();
        return true;
    }
}
