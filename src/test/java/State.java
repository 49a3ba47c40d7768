/** All that can be asked of a fair, as a text: the acts that are remembered in its first line, the rest behind it. */
final class State {
    private State() {
    }

    static String of(HoopFair f) {
        return f.count(14) + withoutActs(f);
    }

    static String withoutActs(HoopFair f) {
        StringBuilder text = new StringBuilder("\n");
        for (int what = 0; what < 14; what++) {
            text.append(f.count(what)).append(' ');
        }
        int seed = f.seed(0);
        f.seed(seed);
        text.append("seed ").append(seed);
        add(text, "\nblock", f.count(0), 6, f::block);
        add(text, "\nhoop", f.count(1), 4, f::hoop);
        add(text, "\nperson", f.count(2), 3, f::person);
        add(text, "\nlies", f.count(8), 4, f::lies);
        add(text, "\nlog", f.count(13), 6, f::log);
        addAims(text, f);
        return text.toString();
    }

    private interface Asked {
        int answer(int row, int what);
    }

    private static void add(StringBuilder text, String name, int rows, int whats, Asked asked) {
        for (int row = 0; row < rows; row++) {
            text.append(name);
            for (int what = 0; what < whats; what++) {
                text.append(' ').append(asked.answer(row, what));
            }
        }
    }

    /** What is seen of THE LAW. */
    private static void addAims(StringBuilder text, HoopFair f) {
        if (f.count(1) > 0 && f.count(2) > 0) {
            text.append("\naims");
            for (int what = 0; what < 4; what++) {
                text.append(' ').append(f.aims(0, 0, 20, 3, 3, what));
            }
        }
    }
}
