import java.util.List;

/** A law whose text is known to be right, read anew each time that it is asked. */
final class NaiveLaw {
    private final List<NaiveTexts.Thing> things;
    private final int lines;
    private int at;
    private int[] facts;
    private boolean wet;

    NaiveLaw(String text) {
        things = NaiveTexts.split(text);
        lines = things.isEmpty() ? 0 : 1 + (int) things.stream().filter(t -> t.text().equals(";")).count();
    }

    int lines() {
        return lines;
    }

    /** Of far, short, right, left, spread, strict. */
    int[] sums(int[] facts, boolean wet) {
        this.facts = facts;
        this.wet = wet;
        int[] sums = new int[6];
        at = 0;
        while (at < things.size()) {
            int which = List.of("far", "short", "right", "left", "spread", "strict").indexOf(take());
            int n = Integer.parseInt(take());
            boolean holds = true;
            if (is("if")) {
                take();
                holds = any();
            }
            sums[which] += holds ? n : 0;
            if (is(";")) {
                take();
            }
        }
        return sums;
    }

    private boolean is(String text) {
        return at < things.size() && things.get(at).text().equals(text);
    }

    private String take() {
        return things.get(at++).text();
    }

    private boolean any() {
        boolean holds = all();
        while (is("or")) {
            take();
            holds |= all();
        }
        return holds;
    }

    private boolean all() {
        boolean holds = atom();
        while (is("and")) {
            take();
            holds &= atom();
        }
        return holds;
    }

    private boolean atom() {
        if (is("not")) {
            take();
            return !atom();
        }
        if (is("(")) {
            take();
            boolean holds = any();
            take();
            return holds;
        }
        if (is("wet")) {
            take();
            return wet;
        }
        int left = sum();
        String sign = take();
        int right = sum();
        return sign.equals("<") ? left < right : left > right;
    }

    private int sum() {
        int sum = part();
        while (is("+")) {
            take();
            sum += part();
        }
        return sum;
    }

    private int part() {
        String text = take();
        int fact = List.of("who", "hoop", "from", "height", "pace", "skill", "throws").indexOf(text);
        return fact >= 0 ? facts[fact] : Integer.parseInt(text);
    }
}
