import java.util.ArrayDeque;
import java.util.ArrayList;
import java.util.Deque;
import java.util.List;
import java.util.regex.Matcher;
import java.util.regex.Pattern;

/** Where a text is wrong first, told by patterns of a line and by a table of what may follow what. */
final class NaiveTexts {
    private NaiveTexts() {
    }

    record Thing(String text, int begin) {
        boolean isNumber(int low, int high) {
            return text.matches("[0-9]{1,3}") && Integer.parseInt(text) >= low && Integer.parseInt(text) <= high;
        }
    }

    static List<Thing> split(String text) {
        List<Thing> things = new ArrayList<>();
        Matcher matcher = Pattern.compile("(?s)[a-z]+|[0-9]+|[^ ]").matcher(text);
        while (matcher.find()) {
            things.add(new Thing(matcher.group(), matcher.start()));
        }
        return things;
    }

    // ---- the fair: each line is a word and a pattern of slots, of which the last may be left out

    private static final String[] LINES = {
        "block 0-59 0-39 side 1-9 prize 0-999 ?velvet", "hoop 2-15 oval 0-OVAL ?wet", "person 0-99", "price 0-99",
        "bounce 0-3", "knock 0-9", "counts 0-1",
    };

    /** Reads the text into all: where it is wrong, or NONE. */
    static int fair(String text, NaiveFair.All all) {
        List<Thing> things = split(text);
        int at = 0;
        int lines = 0;
        while (at < things.size()) {
            if (lines == 14) {
                return things.get(at).begin;
            }
            String slots = slotsOf(things.get(at).text);
            boolean full = slots != null && (slots.startsWith("block") && all.blocks.size() == 10
                    || slots.startsWith("hoop") && all.hoops.size() == 8 || slots.startsWith("person") && all.people.size() == 6);
            if (slots == null || full) {
                return things.get(at).begin;
            }
            List<Integer> numbers = new ArrayList<>();
            boolean last = false;
            for (String slot : slots.split(" ")) {
                if (slot.startsWith("?")) {
                    last = at < things.size() && things.get(at).text.equals(slot.substring(1));
                    at += last ? 1 : 0;
                    continue;
                }
                if (at == things.size()) {
                    return text.length();
                }
                if (!stands(things.get(at), slot, numbers)) {
                    return things.get(at).begin;
                }
                if (slot.contains("-")) {
                    numbers.add(Integer.parseInt(things.get(at).text));
                }
                at++;
            }
            add(slots, numbers, last, all);
            lines++;
            if (at == things.size()) {
                return NaiveFair.NONE;
            }
            if (!things.get(at).text.equals(";")) {
                return things.get(at).begin;
            }
            at++;
            if (at == things.size()) {
                return text.length();
            }
        }
        return NaiveFair.NONE;
    }

    private static String slotsOf(String word) {
        for (String line : LINES) {
            if (line.startsWith(word + " ")) {
                return line;
            }
        }
        return null;
    }

    private static boolean stands(Thing thing, String slot, List<Integer> numbers) {
        if (!slot.contains("-")) {
            return thing.text.equals(slot);
        }
        String[] bounds = slot.split("-");
        int high = bounds[1].equals("OVAL") ? Math.min(9, numbers.get(0) - 1) : Integer.parseInt(bounds[1]);
        return thing.isNumber(Integer.parseInt(bounds[0]), high);
    }

    private static void add(String slots, List<Integer> n, boolean last, NaiveFair.All all) {
        switch (slots.split(" ")[0]) {
            case "block" -> {
                NaiveFair.Block b = new NaiveFair.Block();
                b.x = n.get(0);
                b.y = n.get(1);
                b.side = n.get(2);
                b.prize = n.get(3);
                b.velvet = last;
                all.blocks.add(b);
            }
            case "hoop" -> {
                NaiveFair.Hoop h = new NaiveFair.Hoop();
                h.across = n.get(0);
                h.oval = n.get(1);
                h.wet = last;
                all.hoops.add(h);
            }
            case "person" -> {
                NaiveFair.Person p = new NaiveFair.Person();
                p.skill = n.get(0);
                all.people.add(p);
            }
            case "price" -> all.price = n.get(0);
            case "bounce" -> all.bounce = n.get(0);
            case "knock" -> all.knock = n.get(0);
            default -> all.counts = n.get(0);
        }
    }

    // ---- the law: what may follow, with what is open

    private enum Place { LINE, FAR, SPREAD, BEHIND_N, ATOM, BEHIND_ATOM, BEHIND_PART, PART }

    static int lawFault(String text) {
        List<Thing> things = split(text);
        Place place = Place.LINE;
        // What is open: "(" and "not", each 1 deep; a not ends with its atom.
        Deque<String> open = new ArrayDeque<>();
        boolean compared = false;
        int lines = 0;
        for (Thing thing : things) {
            String t = thing.text;
            Place next = null;
            switch (place) {
                case LINE -> {
                    lines++;
                    if (lines <= 12) {
                        next = t.matches("far|short|right|left") ? Place.FAR : t.matches("spread|strict") ? Place.SPREAD : null;
                    }
                }
                case FAR -> next = thing.isNumber(0, 60) ? Place.BEHIND_N : null;
                case SPREAD -> next = thing.isNumber(0, 9) ? Place.BEHIND_N : null;
                case BEHIND_N -> next = t.equals("if") ? Place.ATOM : t.equals(";") ? Place.LINE : null;
                case ATOM -> {
                    compared = false;
                    if (t.equals("not") || t.equals("(")) {
                        next = open.size() < 6 ? Place.ATOM : null;
                        open.push(t);
                    } else if (t.equals("wet")) {
                        closeNots(open);
                        next = Place.BEHIND_ATOM;
                    } else {
                        next = isPart(thing) ? Place.BEHIND_PART : null;
                    }
                }
                case PART -> next = isPart(thing) ? Place.BEHIND_PART : null;
                case BEHIND_PART -> {
                    if (t.equals("+")) {
                        next = Place.PART;
                    } else if (!compared && (t.equals("<") || t.equals(">"))) {
                        compared = true;
                        next = Place.PART;
                    } else if (compared) {
                        closeNots(open);
                        next = behindAtom(t, open);
                    }
                }
                default -> next = behindAtom(t, open);
            }
            if (next == null) {
                return thing.begin;
            }
            place = next;
        }
        boolean whole = things.isEmpty() || place == Place.BEHIND_N
                || place == Place.BEHIND_ATOM && open.isEmpty()
                || place == Place.BEHIND_PART && compared && !open.contains("(");
        return whole ? NaiveFair.NONE : text.length();
    }

    private static void closeNots(Deque<String> open) {
        while (!open.isEmpty() && open.peek().equals("not")) {
            open.pop();
        }
    }

    private static Place behindAtom(String t, Deque<String> open) {
        if (t.equals("and") || t.equals("or")) {
            return Place.ATOM;
        }
        if (t.equals(")") && !open.isEmpty()) {
            open.pop();
            closeNots(open);
            return Place.BEHIND_ATOM;
        }
        return t.equals(";") && open.isEmpty() ? Place.LINE : null;
    }

    private static boolean isPart(Thing thing) {
        return thing.isNumber(0, 999) || thing.text.matches("who|hoop|from|height|pace|skill|throws");
    }
}
