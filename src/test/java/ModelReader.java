import java.util.ArrayDeque;
import java.util.ArrayList;
import java.util.Deque;
import java.util.List;

/** Reads a text without recursion: what may come next is told by what is open, and trees are built by strength. */
final class ModelReader {
    private final List<String> tokens = new ArrayList<>();
    private final List<Integer> places = new ArrayList<>();
    private final List<Model.Tree> parts = new ArrayList<>();
    private int fault = -1;
    // Of one E: what waits for its right side, and what is made already.
    private final Deque<String> waiting = new ArrayDeque<>();
    private final Deque<Model.Tree> made = new ArrayDeque<>();
    // By bracket that is open, whether a < or = stands in the NOT that is read.
    private final Deque<Boolean> compared = new ArrayDeque<>();

    ModelReader(String tape) {
        split(tape);
        int at = 0;
        for (String key : new String[] {"feels", "strong", "eases"}) {
            at = readPart(key, at);
            if (at < 0) {
                return;
            }
        }
        if (at < tokens.size() - 1) {
            fault = places.get(at);
        }
    }

    int fault() {
        return fault;
    }

    Model.Text text() {
        return new Model.Text(parts.toArray(new Model.Tree[0]));
    }

    /** Tokens and their places; one that can stand nowhere is "?", the end is "". */
    private void split(String tape) {
        java.util.regex.Matcher m = java.util.regex.Pattern.compile("[a-z]+|[0-9]+|[();+\\-*<=]|[^ \n]").matcher(tape);
        List<String> known = List.of("feels", "strong", "eases", "or", "and", "not",
            "age", "number", "floor", "year", "ease", "others", "(", ")", ";", "+", "-", "*", "<", "=");
        while (m.find()) {
            String t = m.group();
            tokens.add(known.contains(t) || t.matches("[0-9]{1,4}") ? t : "?");
            places.add(m.start());
        }
        tokens.add("");
        places.add(tape.length());
    }

    private int readPart(String key, int from) {
        if (!tokens.get(from).equals(key)) {
            fault = places.get(from);
            return -1;
        }
        waiting.clear();
        made.clear();
        compared.clear();
        compared.push(false);
        boolean wantsOne = true;
        boolean notMayStand = true;
        for (int i = from + 1; i < tokens.size(); i++) {
            String t = tokens.get(i);
            if (wantsOne ? !opens(t, notMayStand) && !isOne(t) : !goesOn(t)) {
                fault = places.get(i);
                return -1;
            }
            if (!wantsOne && t.equals(";")) {
                parts.add(made.pop());
                return i + 1;
            }
            boolean isBehindOne = wantsOne ? isOne(t) : t.equals(")");
            wantsOne = !isBehindOne;
            notMayStand = t.equals("(") || t.equals("not") || t.equals("or") || t.equals("and");
        }
        throw new IllegalStateException("a text has an end");
    }

    private static boolean isOne(String t) {
        return t.matches("[0-9]+|age|number|floor|year|ease|others");
    }

    /** Takes what stands ahead of a ONE: a bracket, a not, a minus; or the ONE itself. */
    private boolean opens(String t, boolean notMayStand) {
        if (isOne(t)) {
            made.push(new Model.Tree(t.matches("[0-9]+") ? "" + Integer.parseInt(t) : t, null, null));
            return true;
        }
        boolean isOpening = t.equals("(") || t.equals("-") || t.equals("not") && notMayStand;
        if (!isOpening || openNow() >= 5) {
            return false;
        }
        waiting.push(t.equals("-") ? "neg" : t);
        if (t.equals("(")) {
            compared.push(false);
        }
        return true;
    }

    /** What is open ahead of a ONE: nothing that waits for less than this ONE has ended. */
    private int openNow() {
        int open = 0;
        for (String w : waiting) {
            open += w.equals("(") || w.equals("neg") || w.equals("not") ? 1 : 0;
        }
        return open;
    }

    private static int strength(String t) {
        switch (t) {
            case "neg": return 7;
            case "*": return 6;
            case "+": case "-": return 5;
            case "<": case "=": return 4;
            case "not": return 3;
            case "and": return 2;
            case "or": return 1;
            default: return 0;
        }
    }

    private void close(int least) {
        while (!waiting.isEmpty() && !waiting.peek().equals("(") && strength(waiting.peek()) >= least) {
            String deed = waiting.pop();
            Model.Tree right = made.pop();
            boolean single = deed.equals("neg") || deed.equals("not");
            made.push(single ? new Model.Tree(deed, right, null) : new Model.Tree(deed, made.pop(), right));
        }
    }

    /** Takes what stands behind a ONE. */
    private boolean goesOn(String t) {
        close(7);
        switch (t) {
            case "*": case "+": case "-":
                close(strength(t));
                waiting.push(t);
                return true;
            case "<": case "=":
                if (compared.pop()) {
                    return false;
                }
                compared.push(true);
                close(4);
                waiting.push(t);
                return true;
            case "and": case "or":
                close(strength(t));
                compared.pop();
                compared.push(false);
                waiting.push(t);
                return true;
            case ")":
                close(1);
                if (waiting.isEmpty()) {
                    return false;
                }
                waiting.pop();
                compared.pop();
                return true;
            case ";":
                close(1);
                return waiting.isEmpty();
            default:
                return false;
        }
    }
}
