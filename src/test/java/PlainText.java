import java.util.TreeSet;

/**
 * TEXTS read as slowly and as literally as can be, to compare with: whether a TEXT is one by matching the
 * grammar in all ways, its FAULT by trying to go on behind each beginning, its worth by cutting it up.
 */
final class PlainText {
    private static final int MOST_OPEN = 6;
    private final String text;

    private PlainText(String text) {
        this.text = text;
    }

    /** -1: none. */
    static int fault(String text) {
        for (int i = 0; i < text.length(); i++) {
            if (!goesOn(text.substring(0, i + 1))) {
                return i;
            }
        }
        return isText(text) ? -1 : text.length();
    }

    /** A beginning wants an O at most, and then the brackets that are open. */
    private static boolean goesOn(String beginning) {
        for (int closed = 0; closed <= MOST_OPEN; closed++) {
            if (isText(beginning + ")".repeat(closed)) || isText(beginning + "d" + ")".repeat(closed))) {
                return true;
            }
        }
        return false;
    }

    private static boolean isText(String text) {
        for (String line : text.split(";", -1)) {
            boolean fits = false;
            PlainText part = new PlainText(line);
            for (int end : part.ends("E", 0, 0)) {
                fits |= end == line.length();
                fits |= end < line.length() && line.charAt(end) == '?'
                    && part.ends("E", end + 1, 0).contains(line.length());
            }
            if (!fits) {
                return false;
            }
        }
        return true;
    }

    /** All places where a part that begins here may end. */
    private TreeSet<Integer> ends(String part, int from, int open) {
        switch (part) {
            case "E":
                return joined("A", "|", 999, from, open);
            case "A":
                return joined("B", "&", 999, from, open);
            case "B":
                return joined("S", "<=>", 1, from, open);
            case "S":
                return joined("P", "+-", 999, from, open);
            case "P":
                return joined("O", "*/%", 999, from, open);
            default:
                return endsOfO(from, open);
        }
    }

    private TreeSet<Integer> joined(String part, String signs, int most, int from, int open) {
        TreeSet<Integer> all = ends(part, from, open);
        TreeSet<Integer> latest = all;
        for (int i = 0; i < most && !latest.isEmpty(); i++) {
            TreeSet<Integer> next = new TreeSet<>();
            for (int end : latest) {
                if (end < text.length() && signs.indexOf(text.charAt(end)) >= 0) {
                    next.addAll(ends(part, end + 1, open));
                }
            }
            all.addAll(next);
            latest = new TreeSet<>(next);
        }
        return all;
    }

    private TreeSet<Integer> endsOfO(int from, int open) {
        TreeSet<Integer> all = new TreeSet<>();
        for (int end = from + 1; end <= Math.min(text.length(), from + 4) && isNumber(text.substring(from, end)); end++) {
            all.add(end);
        }
        if (from >= text.length()) {
            return all;
        }
        char letter = text.charAt(from);
        if ("dsmwkv".indexOf(letter) >= 0) {
            all.add(from + 1);
        }
        if ((letter == '!' || letter == '-') && open < MOST_OPEN) {
            all.addAll(ends("O", from + 1, open + 1));
        }
        if (letter == '(' && open < MOST_OPEN) {
            for (int end : ends("E", from + 1, open + 1)) {
                if (end < text.length() && text.charAt(end) == ')') {
                    all.add(end + 1);
                }
            }
        }
        return all;
    }

    private static boolean isNumber(String part) {
        for (char letter : part.toCharArray()) {
            if (letter < '0' || letter > '9') {
                return false;
            }
        }
        return true;
    }

    /** What a TEXT without FAULT gives, the NAMES d, s, m, w, k, v being worth so much. */
    static int worth(String text, int... names) {
        for (String line : text.split(";")) {
            String[] parts = line.split("\\?");
            if (parts.length == 1 || worthOf(parts[0], names) != 0) {
                return Math.max(0, Math.min(99, worthOf(parts[parts.length - 1], names)));
            }
        }
        return 0;
    }

    private static int worthOf(String part, int[] names) {
        for (String signs : new String[] {"|", "&", "<=>", "+-", "*/%"}) {
            int at = lastJoint(part, signs);
            if (at >= 0) {
                return join(worthOf(part.substring(0, at), names), part.charAt(at), worthOf(part.substring(at + 1), names));
            }
        }
        char first = part.charAt(0);
        if (first == '!') {
            return worthOf(part.substring(1), names) == 0 ? 1 : 0;
        }
        if (first == '-') {
            return -worthOf(part.substring(1), names);
        }
        if (first == '(') {
            return worthOf(part.substring(1, part.length() - 1), names);
        }
        int name = "dsmwkv".indexOf(first);
        return name >= 0 ? names[name] : Integer.parseInt(part);
    }

    /** The last sign of these outside all brackets with something to join at its left; -1: none. */
    private static int lastJoint(String part, String signs) {
        int open = 0;
        for (int at = part.length() - 1; at > 0; at--) {
            char letter = part.charAt(at);
            open += letter == ')' ? 1 : letter == '(' ? -1 : 0;
            char left = part.charAt(at - 1);
            boolean joins = left == ')' || Character.isLetterOrDigit(left);
            if (open == 0 && joins && signs.indexOf(letter) >= 0) {
                return at;
            }
        }
        return -1;
    }

    private static int join(int left, char sign, int right) {
        switch (sign) {
            case '|':
                return left != 0 | right != 0 ? 1 : 0;
            case '&':
                return left != 0 & right != 0 ? 1 : 0;
            case '<':
                return left < right ? 1 : 0;
            case '=':
                return left == right ? 1 : 0;
            case '>':
                return left > right ? 1 : 0;
            case '+':
                return (int) ((long) left + right);
            case '-':
                return (int) ((long) left - right);
            case '*':
                return (int) ((long) left * right);
            case '/':
                return right == 0 ? 0 : (int) ((long) left / right);
            default:
                return right == 0 ? 0 : (int) ((long) left % right);
        }
    }
}
