import java.math.BigInteger;
import java.util.ArrayList;
import java.util.Arrays;
import java.util.LinkedHashMap;
import java.util.List;
import java.util.Map;

/** Part III of the document once more: lists, numbers, patterns and dictionaries. */
final class PlainValues {
    /** An ERROR, on its way to the command that it ends. */
    static final class Wrong extends RuntimeException {
        private static final long serialVersionUID = 1;
        final String text;

        Wrong(String text) {
            super(text, null, false, false);
            this.text = text;
        }
    }

    private static final BigInteger LEAST = BigInteger.valueOf(Long.MIN_VALUE);
    private static final BigInteger GREATEST = BigInteger.valueOf(Long.MAX_VALUE);

    private PlainValues() {
    }

    static List<String> list(String text) {
        List<String> elements = new ArrayList<>();
        int at = 0;
        while (true) {
            while (at < text.length() && PlainCutter.isWhite(text.charAt(at))) {
                at++;
            }
            if (at == text.length()) {
                return elements;
            }
            at = element(text, at, elements);
        }
    }

    private static int element(String text, int from, List<String> elements) {
        StringBuilder letters = new StringBuilder();
        char first = text.charAt(from);
        int end;
        if (first == '{') {
            end = endOfBraces(text, from);
            letters.append(text, from + 1, end - 1);
        } else if (first == '"') {
            end = from + 1;
            while (end < text.length() && text.charAt(end) != '"') {
                end = letter(text, end, letters);
            }
            if (end >= text.length()) {
                throw new Wrong("missing quote");
            }
            end++;
        } else {
            end = from;
            while (end < text.length() && !PlainCutter.isWhite(text.charAt(end))) {
                end = letter(text, end, letters);
            }
        }
        if (end < text.length() && !PlainCutter.isWhite(text.charAt(end))) {
            throw new Wrong(first == '{' ? "letters behind brace" : "letters behind quote");
        }
        elements.add(letters.toString());
        return end;
    }

    private static int letter(String text, int at, StringBuilder letters) {
        if (text.charAt(at) == '\\') {
            return PlainCutter.escape(text, at, letters);
        }
        letters.append(text.charAt(at));
        return at + 1;
    }

    private static int endOfBraces(String text, int from) {
        int open = 0;
        for (int at = from; at < text.length(); at++) {
            char c = text.charAt(at);
            open += c == '{' ? 1 : c == '}' ? -1 : 0;
            if (open == 0) {
                return at + 1;
            }
            at += c == '\\' ? 1 : 0;
        }
        throw new Wrong("missing brace");
    }

    static String written(String... elements) {
        return written(Arrays.asList(elements));
    }

    static String written(Map<String, String> dictionary) {
        List<String> elements = new ArrayList<>();
        for (Map.Entry<String, String> entry : dictionary.entrySet()) {
            elements.add(entry.getKey());
            elements.add(entry.getValue());
        }
        return written(elements);
    }

    static String written(List<String> elements) {
        StringBuilder text = new StringBuilder();
        for (int i = 0; i < elements.size(); i++) {
            text.append(i > 0 ? " " : "");
            write(elements.get(i), i == 0, text);
        }
        return text.toString();
    }

    private static void write(String element, boolean first, StringBuilder text) {
        boolean number = first && element.startsWith("#");
        if (element.isEmpty()) {
            text.append("{}");
        } else if (!number && element.chars().noneMatch(c -> isSign((char) c))) {
            text.append(element);
        } else if (element.indexOf('\\') < 0 && isBalanced(element)) {
            text.append('{').append(element).append('}');
        } else {
            for (int i = 0; i < element.length(); i++) {
                char c = element.charAt(i);
                text.append(isSign(c) || number && i == 0 ? "\\" : "");
                text.append(c >= 9 && c <= 13 ? "tnvfr".charAt(c - 9) : c);
            }
        }
    }

    private static boolean isSign(char c) {
        return PlainCutter.isWhite(c) || "{}[]$;\"\\".indexOf(c) >= 0;
    }

    private static boolean isBalanced(String text) {
        int open = 0;
        for (int i = 0; i < text.length() && open >= 0; i++) {
            open += text.charAt(i) == '{' ? 1 : text.charAt(i) == '}' ? -1 : 0;
        }
        return open == 0;
    }

    static boolean isWithin(BigInteger number) {
        return number.compareTo(LEAST) >= 0 && number.compareTo(GREATEST) <= 0;
    }

    static boolean areDigits(String text, int base) {
        return !text.isEmpty() && text.chars().allMatch(c -> c < 128 && Character.digit(c, base) >= 0);
    }

    /** An INTEGER, or null. */
    static BigInteger integer(String text) {
        boolean signed = text.startsWith("-") || text.startsWith("+");
        String rest = signed ? text.substring(1) : text;
        int base = rest.startsWith("0x") ? 16 : rest.startsWith("0b") ? 2 : rest.startsWith("0o") ? 8 : 10;
        String digits = base == 10 ? rest : rest.substring(2);
        if (!areDigits(digits, base)) {
            return null;
        }
        BigInteger number = new BigInteger(digits, base);
        number = text.startsWith("-") ? number.negate() : number;
        return isWithin(number) ? number : null;
    }

    static BigInteger number(String text) {
        BigInteger number = integer(text);
        if (number == null) {
            throw new Wrong("no number: " + text);
        }
        return number;
    }

    static String inRange(BigInteger number) {
        if (!isWithin(number)) {
            throw new Wrong("too great");
        }
        return number.toString();
    }

    /** 1, 0, or -1 for a text that is neither a truth nor none. */
    static int kindOfTruth(String text) {
        BigInteger number = integer(text);
        if (number != null) {
            return number.signum() != 0 ? 1 : 0;
        }
        return List.of("true", "yes", "on").contains(text) ? 1 : List.of("false", "no", "off").contains(text) ? 0 : -1;
    }

    static boolean truth(String text) {
        int kind = kindOfTruth(text);
        if (kind < 0) {
            throw new Wrong("no truth: " + text);
        }
        return kind == 1;
    }

    /** An INDEX of so many things; -1 for all below 0, so many for all beyond. */
    static int index(String text, int many) {
        BigInteger index = integer(text);
        if (text.equals("end")) {
            index = BigInteger.valueOf(many - 1);
        } else if (text.startsWith("end-") || text.startsWith("end+")) {
            BigInteger by = areDigits(text.substring(4), 10) ? integer(text.substring(4)) : null;
            index = by == null ? null : BigInteger.valueOf(many - 1).add(text.charAt(3) == '-' ? by.negate() : by);
        }
        if (index == null) {
            throw new Wrong("bad index: " + text);
        }
        return index.max(BigInteger.valueOf(-1)).min(BigInteger.valueOf(many)).intValue();
    }

    static boolean fits(String pattern, String text) {
        if (pattern.isEmpty()) {
            return text.isEmpty();
        }
        char c = pattern.charAt(0);
        if (c == '*') {
            String rest = pattern.substring(1);
            return fits(rest, text) || !text.isEmpty() && fits(pattern, text.substring(1));
        }
        if (text.isEmpty()) {
            return false;
        }
        int size = 1;
        boolean one = c == '?' || c == text.charAt(0);
        if (c == '[') {
            size = pattern.indexOf(']') + 1;
            one = size > 0 && isOneOf(pattern.substring(1, size - 1), text.charAt(0));
        } else if (c == '\\' && pattern.length() > 1) {
            size = 2;
            one = pattern.charAt(1) == text.charAt(0);
        }
        return one && fits(pattern.substring(size), text.substring(1));
    }

    private static boolean isOneOf(String letters, char c) {
        for (int i = 0; i < letters.length(); i++) {
            char from = letters.charAt(i);
            char to = from;
            if (i + 2 < letters.length() && letters.charAt(i + 1) == '-') {
                to = letters.charAt(i + 2);
                i += 2;
            }
            if (c >= Math.min(from, to) && c <= Math.max(from, to)) {
                return true;
            }
        }
        return false;
    }

    static List<String> pairs(String text) {
        List<String> elements = list(text);
        if (elements.size() % 2 != 0) {
            throw new Wrong("no dictionary");
        }
        return elements;
    }

    static LinkedHashMap<String, String> dictionary(String text) {
        List<String> elements = pairs(text);
        LinkedHashMap<String, String> dictionary = new LinkedHashMap<>();
        for (int i = 0; i < elements.size(); i += 2) {
            dictionary.put(elements.get(i), elements.get(i + 1));
        }
        return dictionary;
    }

    /** Texts as by concat. */
    static String joined(List<String> texts) {
        List<String> rows = new ArrayList<>();
        for (String text : texts) {
            String row = trimmed(text, " \t\n\u000b\f\r", true, true);
            if (!row.isEmpty()) {
                rows.add(row);
            }
        }
        return String.join(" ", rows);
    }

    static String trimmed(String text, String letters, boolean left, boolean right) {
        int from = 0;
        int to = text.length();
        while (left && from < to && letters.indexOf(text.charAt(from)) >= 0) {
            from++;
        }
        while (right && from < to && letters.indexOf(text.charAt(to - 1)) >= 0) {
            to--;
        }
        return text.substring(from, to);
    }
}
