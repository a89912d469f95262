import java.math.BigInteger;
import java.util.ArrayList;
import java.util.List;

/** Part V of the document once more: an expression is cut into a tree and worked from the left. */
final class PlainExpression {
    /** What an operand, or a sign with its operands, answers when it is worked. */
    private interface Node {
        String work();
    }

    private static final int MOST_NESTED = 50;
    private static final String[] SIGNS = {"**", "<<", ">>", "<=", ">=", "==", "!=", "&&", "||", "eq", "ne", "in", "ni", "+", "-",
        "*", "/", "%", "<", ">", "&", "^", "|"};
    private static final List<List<String>> LEVELS = List.of(List.of("||"), List.of("&&"), List.of("|"), List.of("^"), List.of("&"),
        List.of("in", "ni"), List.of("eq", "ne"), List.of("==", "!="), List.of("<", ">", "<=", ">="), List.of("<<", ">>"),
        List.of("+", "-"), List.of("*", "/", "%"));

    private final PlainHouse house;
    private final PlainCutter cutter;
    private final int depth;

    private PlainExpression(PlainHouse house, String text, int depth) {
        this.house = house;
        this.cutter = new PlainCutter(text);
        this.depth = depth;
    }

    static String answer(PlainHouse house, String text, int depth) {
        PlainExpression expression = new PlainExpression(house, text, depth);
        Node node = expression.choice(0);
        expression.pass();
        if (!expression.cutter.atEnd()) {
            throw bad();
        }
        String value = node.work();
        BigInteger number = PlainValues.integer(value);
        return number == null ? value : number.toString();
    }

    private static PlainValues.Wrong bad() {
        return new PlainValues.Wrong("bad expression");
    }

    private int within(int nested) {
        if (nested >= MOST_NESTED) {
            throw new PlainValues.Wrong("too deep");
        }
        return nested + 1;
    }

    private void pass() {
        while (!cutter.atEnd() && (PlainCutter.isWhite(cutter.text.charAt(cutter.at)) || cutter.seesGap())) {
            if (cutter.seesGap()) {
                cutter.passGap();
            } else {
                cutter.at++;
            }
        }
    }

    private boolean takes(char c) {
        pass();
        boolean there = cutter.sees(c);
        cutter.at += there ? 1 : 0;
        return there;
    }

    private void wants(char c) {
        if (!takes(c)) {
            throw bad();
        }
    }

    private String sign() {
        pass();
        for (String sign : SIGNS) {
            int end = cutter.at + sign.length();
            boolean letters = Character.isLetter(sign.charAt(0));
            boolean longer = letters && end < cutter.text.length() && PlainCutter.isNameLetter(cutter.text.charAt(end));
            if (cutter.text.startsWith(sign, cutter.at) && !longer) {
                return sign;
            }
        }
        return "";
    }

    private Node choice(int nested) {
        Node test = binary(0, nested);
        if (!takes('?')) {
            return test;
        }
        int inner = within(nested);
        Node then = choice(inner);
        wants(':');
        Node otherwise = choice(inner);
        return () -> (PlainValues.truth(test.work()) ? then : otherwise).work();
    }

    private Node binary(int level, int nested) {
        if (level == LEVELS.size()) {
            return power(nested);
        }
        Node node = binary(level + 1, nested);
        for (String sign = sign(); LEVELS.get(level).contains(sign); sign = sign()) {
            cutter.at += sign.length();
            node = two(sign, node, binary(level + 1, nested));
        }
        return node;
    }

    private Node power(int nested) {
        Node left = ahead(nested);
        if (!sign().equals("**")) {
            return left;
        }
        cutter.at += 2;
        return two("**", left, power(within(nested)));
    }

    private Node two(String sign, Node left, Node right) {
        if (sign.equals("&&")) {
            return () -> bit(PlainValues.truth(left.work()) && PlainValues.truth(right.work()));
        }
        if (sign.equals("||")) {
            return () -> bit(PlainValues.truth(left.work()) || PlainValues.truth(right.work()));
        }
        return () -> {
            String x = left.work();
            String y = right.work();
            house.spend(1);
            return worked(sign, x, y);
        };
    }

    private Node ahead(int nested) {
        pass();
        if (cutter.atEnd() || "-+~!".indexOf(cutter.text.charAt(cutter.at)) < 0) {
            return operand(nested);
        }
        int inner = within(nested);
        char sign = cutter.text.charAt(cutter.at++);
        Node node = ahead(inner);
        return () -> {
            String value = node.work();
            house.spend(1);
            if (sign == '!') {
                return bit(!PlainValues.truth(value));
            }
            BigInteger number = PlainValues.number(value);
            return PlainValues.inRange(sign == '-' ? number.negate() : sign == '~' ? number.not() : number);
        };
    }

    private Node operand(int nested) {
        if (takes('(')) {
            Node node = choice(within(nested));
            wants(')');
            return node;
        }
        try {
            if (cutter.sees('$') || cutter.sees('[')) {
                PlainCutter.Part part = cutter.sees('$') ? cutter.name(0) : cutter.brackets(0);
                if (part == null) {
                    throw bad();
                }
                return () -> taken(house.value(part, depth));
            }
            if (cutter.sees('"')) {
                List<PlainCutter.Part> parts = cutter.quoted(0);
                return () -> taken(house.text(parts, depth));
            }
            if (cutter.sees('{')) {
                String letters = cutter.braced();
                return () -> taken(letters);
            }
        } catch (PlainCutter.Fault fault) {
            throw bad();
        }
        return word(nested);
    }

    private Node word(int nested) {
        int end = cutter.at;
        while (end < cutter.text.length() && PlainCutter.isNameLetter(cutter.text.charAt(end))) {
            end++;
        }
        String word = cutter.text.substring(cutter.at, end);
        cutter.at = end;
        if (PlainValues.kindOfTruth(word) >= 0) {
            return () -> taken(word);
        }
        if (!List.of("abs", "min", "max").contains(word)) {
            throw bad();
        }
        wants('(');
        int inner = within(nested);
        List<Node> nodes = new ArrayList<>();
        do {
            nodes.add(choice(inner));
        } while (!word.equals("abs") && takes(','));
        wants(')');
        return () -> function(word, nodes);
    }

    private String taken(String value) {
        house.spend(1 + value.length());
        return value;
    }

    private String function(String word, List<Node> nodes) {
        List<String> values = new ArrayList<>();
        for (Node node : nodes) {
            values.add(node.work());
        }
        house.spend(1);
        BigInteger answer = null;
        for (String value : values) {
            BigInteger number = PlainValues.number(value);
            answer = answer == null ? number : word.equals("min") ? answer.min(number) : answer.max(number);
        }
        return PlainValues.inRange(word.equals("abs") ? answer.abs() : answer);
    }

    private static String bit(boolean is) {
        return is ? "1" : "0";
    }

    private static int compared(String x, String y) {
        BigInteger a = PlainValues.integer(x);
        BigInteger b = PlainValues.integer(y);
        return a != null && b != null ? a.compareTo(b) : x.compareTo(y);
    }

    private static String worked(String sign, String x, String y) {
        switch (sign) {
            case "eq": return bit(x.equals(y));
            case "ne": return bit(!x.equals(y));
            case "in": return bit(PlainValues.list(y).contains(x));
            case "ni": return bit(!PlainValues.list(y).contains(x));
            case "<": return bit(compared(x, y) < 0);
            case ">": return bit(compared(x, y) > 0);
            case "<=": return bit(compared(x, y) <= 0);
            case ">=": return bit(compared(x, y) >= 0);
            case "==": return bit(compared(x, y) == 0);
            case "!=": return bit(compared(x, y) != 0);
            default: return PlainValues.inRange(reckoned(sign, PlainValues.number(x), PlainValues.number(y)));
        }
    }

    private static BigInteger reckoned(String sign, BigInteger x, BigInteger y) {
        switch (sign) {
            case "+": return x.add(y);
            case "-": return x.subtract(y);
            case "*": return x.multiply(y);
            case "&": return x.and(y);
            case "^": return x.xor(y);
            case "|": return x.or(y);
            case "/": return divided(x, y)[0];
            case "%": return divided(x, y)[1];
            default: return raised(sign, x, y);
        }
    }

    private static BigInteger[] divided(BigInteger x, BigInteger y) {
        if (y.signum() == 0) {
            throw new PlainValues.Wrong("divided by 0");
        }
        BigInteger[] both = x.divideAndRemainder(y);
        if (both[1].signum() != 0 && both[1].signum() != y.signum()) {
            both[0] = both[0].subtract(BigInteger.ONE);
            both[1] = both[1].add(y);
        }
        return both;
    }

    private static BigInteger raised(String sign, BigInteger x, BigInteger y) {
        if (y.signum() < 0) {
            throw new PlainValues.Wrong("bad second");
        }
        if (sign.equals(">>")) {
            return x.shiftRight(y.min(BigInteger.valueOf(63)).intValue());
        }
        // beyond 64 nothing is within the numbers but what stays as small as it is; odd and even are told apart by one step
        BigInteger by = y.compareTo(BigInteger.valueOf(64)) > 0 ? BigInteger.valueOf(y.testBit(0) ? 65 : 64) : y;
        return sign.equals("<<") ? x.shiftLeft(by.intValue()) : x.pow(by.intValue());
    }
}
