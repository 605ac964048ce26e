import java.util.ArrayDeque;
import java.util.ArrayList;
import java.util.HashSet;
import java.util.List;
import java.util.Set;

/**
 * FAULTS of LAWS and WEEKS, found in another way than the program's: all stacks of what may still come are
 * carried along, sign by sign; the first sign that leaves none is the FAULT.
 *
 * A stack is a text of pairs, the top first: a letter for what is awaited and a digit for how deep it stands.
 */
final class Grammar {
    private final String start;
    private final int steps;

    private Grammar(String start, int steps) {
        this.start = start;
        this.steps = steps;
    }

    static int lawFault(String text) {
        return new Grammar("L0", 0).fault(text);
    }

    static int weekFault(String text) {
        return new Grammar("W0", 16).fault(text);
    }

    private int fault(String text) {
        Set<String> stacks = new HashSet<>();
        stacks.add(start);
        for (int i = 0; i < text.length(); i++) {
            stacks = behind(stacks, text.charAt(i));
            if (stacks.isEmpty()) {
                return i;
            }
        }
        for (String stack : expanded(stacks)) {
            if (stack.isEmpty()) {
                return -1;
            }
        }
        return text.length();
    }

    private Set<String> behind(Set<String> stacks, char sign) {
        Set<String> next = new HashSet<>();
        if (sign == ' ') {
            for (String stack : stacks) {
                next.add(stack.startsWith("D") ? stack.substring(2) : stack);
            }
            return next;
        }
        boolean digit = sign >= '0' && sign <= '9';
        boolean inNumber = false;
        for (String stack : stacks) {
            inNumber |= stack.startsWith("D");
        }
        if (inNumber && digit) {
            // a digit behind a digit is the same number's, or it is wrong
            for (String stack : stacks) {
                if (stack.startsWith("D") && stack.charAt(1) > '0') {
                    next.add("D" + (char) (stack.charAt(1) - 1) + stack.substring(2));
                }
            }
            return next;
        }
        for (String stack : expanded(stacks)) {
            if (stack.isEmpty()) {
                continue;
            }
            char top = stack.charAt(0);
            String rest = stack.substring(2);
            if (top == '#' && digit) {
                next.add("D3" + rest);
            } else if (top == '1' && digit) {
                next.add(rest);
            } else if (top == 'a' && "gsbnwt".indexOf(sign) >= 0) {
                next.add(rest);
            } else if (top == '~' && "=<>".indexOf(sign) >= 0) {
                next.add(rest);
            } else if (top == '\'' && sign == stack.charAt(1)) {
                next.add(rest);
            }
        }
        return next;
    }

    /** All stacks that have a sign (or nothing) on top. */
    private Set<String> expanded(Set<String> stacks) {
        Set<String> done = new HashSet<>();
        Set<String> met = new HashSet<>(stacks);
        ArrayDeque<String> open = new ArrayDeque<>(stacks);
        while (!open.isEmpty()) {
            String stack = open.poll();
            if (stack.isEmpty() || "#1a~'".indexOf(stack.charAt(0)) >= 0) {
                done.add(stack);
                continue;
            }
            for (String other : ways(stack.charAt(0), stack.charAt(1) - '0')) {
                String made = other + stack.substring(2);
                if (met.add(made)) {
                    open.add(made);
                }
            }
        }
        return done;
    }

    private List<String> ways(char what, int deep) {
        List<String> ways = new ArrayList<>();
        String d = "" + (char) ('0' + deep);
        String in = "" + (char) ('0' + deep + 1);
        switch (what) {
            case 'D': ways.add(""); break;
            case 'L': ways.add("C0l0"); break;
            case 'l': ways.add(""); ways.add("';C0l0"); break;
            case 'C': ways.add("'y':S0"); ways.add("'y':Q0'?S0"); break;
            case 'Q': ways.add("T" + d + "q" + d); break;
            case 'q': ways.add(""); ways.add("'|T" + d + "q" + d); break;
            case 'T': ways.add("U" + d + "t" + d); break;
            case 't': ways.add(""); ways.add("'&U" + d + "t" + d); break;
            case 'U':
                ways.add("S" + d + "~0S" + d);
                if (deep < 6) {
                    ways.add("'!U" + in);
                    ways.add("'(Q" + in + "')");
                }
                break;
            case 'S': ways.add("M" + d + "s" + d); break;
            case 's': ways.add(""); ways.add("'+M" + d + "s" + d); ways.add("'-M" + d + "s" + d); break;
            case 'M': ways.add("A" + d + "m" + d); break;
            case 'm': ways.add(""); ways.add("'*A" + d + "m" + d); ways.add("'/A" + d + "m" + d); break;
            case 'A':
                ways.add("#0");
                ways.add("a0");
                if (deep < 6) {
                    ways.add("'[S" + in + "']");
                }
                break;
            case 'W':
                for (String step : new String[] {"'d1010", "'s10", "'a1010", "'n"}) {
                    ways.add(step + "w" + d);
                }
                break;
            case 'w':
                ways.add("");
                if (deep < steps - 1) {
                    ways.add("';W" + in);
                }
                break;
            default: throw new IllegalStateException("no such part: " + what);
        }
        return ways;
    }
}
