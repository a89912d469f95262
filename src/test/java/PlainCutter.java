import java.util.ArrayList;
import java.util.List;

/** Part II of the document once more, by recursion: a script is cut into commands, words and parts. */
final class PlainCutter {
    /** What is wrong in a script. */
    static final class Fault extends RuntimeException {
        private static final long serialVersionUID = 1;
        final String text;

        Fault(String text) {
            super(text, null, false, false);
            this.text = text;
        }
    }

    /** A row of letters, a $ (text is its name, index what is in its parentheses) or a [ ]. */
    static final class Part {
        String text;
        boolean isName;
        List<Part> index;
        List<Command> script;
    }

    static final class Word {
        boolean expanded;
        List<Part> parts = new ArrayList<>();
    }

    static final class Command {
        final List<Word> words = new ArrayList<>();
    }

    enum Until { WORD_ENDS, QUOTE, PARENTHESIS, THE_END }

    private static final int MOST_NESTED = 50;
    private static final String ESCAPES = "abfnrtv";
    private static final String ESCAPED = "\u0007\b\f\n\r\t\u000b";

    final String text;
    int at = 0;

    PlainCutter(String text) {
        this.text = text;
    }

    static boolean isWhite(char c) {
        return c >= 9 && c <= 13 || c == ' ';
    }

    static boolean isSpace(char c) {
        return isWhite(c) && c != '\n';
    }

    static boolean isNameLetter(char c) {
        return c >= 'a' && c <= 'z' || c >= 'A' && c <= 'Z' || c >= '0' && c <= '9' || c == '_';
    }

    boolean atEnd() {
        return at >= text.length();
    }

    boolean sees(char c) {
        return !atEnd() && text.charAt(at) == c;
    }

    boolean seesGap() {
        return text.startsWith("\\\n", at);
    }

    void passGap() {
        at += 2;
        while (!atEnd() && isSpace(text.charAt(at))) {
            at++;
        }
    }

    private void passBetweenWords() {
        while (!atEnd() && (isSpace(text.charAt(at)) || seesGap())) {
            if (seesGap()) {
                passGap();
            } else {
                at++;
            }
        }
    }

    private void passAheadOfCommand() {
        while (!atEnd()) {
            if (seesGap()) {
                passGap();
            } else if (sees('#')) {
                passComment();
            } else if (isWhite(text.charAt(at)) || sees(';')) {
                at++;
            } else {
                return;
            }
        }
    }

    private void passComment() {
        while (!atEnd() && !sees('\n')) {
            at += sees('\\') ? 2 : 1;
        }
    }

    /** The next command; null at the end of the script, or of the [ ]. */
    Command next(boolean inBrackets, int nested) {
        passAheadOfCommand();
        if (endsScript(inBrackets)) {
            return null;
        }
        Command command = new Command();
        while (true) {
            passBetweenWords();
            if (endsScript(inBrackets)) {
                return command;
            }
            if (sees('\n') || sees(';')) {
                at++;
                return command;
            }
            command.words.add(word(inBrackets, nested));
        }
    }

    private boolean endsScript(boolean inBrackets) {
        if (atEnd() && inBrackets) {
            throw new Fault("missing bracket");
        }
        return atEnd() || inBrackets && sees(']');
    }

    private boolean endsWord(boolean inBrackets) {
        return atEnd() || isWhite(text.charAt(at)) || sees(';') || seesGap() || inBrackets && sees(']');
    }

    private Word word(boolean inBrackets, int nested) {
        Word word = new Word();
        if (text.startsWith("{*}", at)) {
            at += 3;
            word.expanded = !endsWord(inBrackets);
            at -= word.expanded ? 0 : 3;
        }
        if (sees('"')) {
            word.parts = quoted(nested);
            mustEnd(inBrackets, "letters behind quote");
        } else if (sees('{')) {
            word.parts.add(letters(braced()));
            mustEnd(inBrackets, "letters behind brace");
        } else {
            word.parts = parts(Until.WORD_ENDS, inBrackets, nested);
        }
        return word;
    }

    private void mustEnd(boolean inBrackets, String fault) {
        if (!endsWord(inBrackets)) {
            throw new Fault(fault);
        }
    }

    List<Part> quoted(int nested) {
        at++;
        List<Part> parts = parts(Until.QUOTE, false, nested);
        if (atEnd()) {
            throw new Fault("missing quote");
        }
        at++;
        return parts;
    }

    String braced() {
        StringBuilder letters = new StringBuilder();
        at++;
        for (int open = 1; !atEnd();) {
            char c = text.charAt(at);
            open += c == '{' ? 1 : c == '}' ? -1 : 0;
            if (open == 0) {
                at++;
                return letters.toString();
            }
            if (seesGap()) {
                letters.append(' ');
                passGap();
            } else {
                int size = c == '\\' && at + 1 < text.length() ? 2 : 1;
                letters.append(text, at, at + size);
                at += size;
            }
        }
        throw new Fault("missing brace");
    }

    private static Part letters(String text) {
        Part part = new Part();
        part.text = text;
        return part;
    }

    private boolean ends(Until until, boolean inBrackets) {
        switch (until) {
            case WORD_ENDS: return endsWord(inBrackets);
            case QUOTE: return atEnd() || sees('"');
            case PARENTHESIS: return atEnd() || sees(')');
            default: return atEnd();
        }
    }

    List<Part> parts(Until until, boolean inBrackets, int nested) {
        List<Part> parts = new ArrayList<>();
        StringBuilder row = new StringBuilder();
        while (!ends(until, inBrackets)) {
            Part part = sees('$') ? name(nested) : sees('[') ? brackets(nested) : null;
            if (part != null) {
                addRow(parts, row);
                parts.add(part);
            } else if (sees('\\')) {
                at = escape(text, at, row);
            } else {
                row.append(text.charAt(at++));
            }
        }
        addRow(parts, row);
        return parts;
    }

    private static void addRow(List<Part> parts, StringBuilder row) {
        if (row.length() > 0) {
            parts.add(letters(row.toString()));
            row.setLength(0);
        }
    }

    private void enter(int nested) {
        if (nested >= MOST_NESTED) {
            throw new Fault("too deep");
        }
        at++;
    }

    Part brackets(int nested) {
        enter(nested);
        Part part = new Part();
        part.script = new ArrayList<>();
        for (Command c = next(true, nested + 1); c != null; c = next(true, nested + 1)) {
            part.script.add(c);
        }
        at++;
        return part;
    }

    /** At a $: what it is; null, and nothing is passed by, if it is a letter. */
    Part name(int nested) {
        Part part = new Part();
        part.isName = true;
        if (text.startsWith("${", at)) {
            int end = text.indexOf('}', at);
            if (end < 0) {
                throw new Fault("missing brace");
            }
            part.text = text.substring(at + 2, end);
            at = end + 1;
            return part;
        }
        int end = endOfName(at + 1);
        if (end == at + 1) {
            return null;
        }
        part.text = text.substring(at + 1, end);
        at = end;
        if (sees('(')) {
            enter(nested);
            part.index = parts(Until.PARENTHESIS, false, nested + 1);
            if (atEnd()) {
                throw new Fault("missing parenthesis");
            }
            at++;
        }
        return part;
    }

    private int endOfName(int from) {
        int end = from;
        while (end < text.length()) {
            if (isNameLetter(text.charAt(end))) {
                end++;
            } else if (text.startsWith("::", end)) {
                while (end < text.length() && text.charAt(end) == ':') {
                    end++;
                }
            } else {
                break;
            }
        }
        return end;
    }

    /** Puts what a \ at this place stands for behind a row; answers the place behind it. */
    static int escape(String text, int from, StringBuilder row) {
        if (from + 1 == text.length()) {
            row.append('\\');
            return from + 1;
        }
        char c = text.charAt(from + 1);
        if (c == '\n') {
            PlainCutter cutter = new PlainCutter(text);
            cutter.at = from;
            cutter.passGap();
            row.append(' ');
            return cutter.at;
        }
        int known = ESCAPES.indexOf(c);
        if (known >= 0) {
            row.append(ESCAPED.charAt(known));
            return from + 2;
        }
        int start = c == 'x' ? from + 2 : from + 1;
        int end = digits(text, start, c == 'x' ? 16 : 8, c == 'x' ? 2 : 3);
        if (end == start) {
            row.append(c);
            return from + 2;
        }
        row.append((char) (Integer.parseInt(text.substring(start, end), c == 'x' ? 16 : 8) & 255));
        return end;
    }

    private static int digits(String text, int from, int base, int most) {
        int end = from;
        while (end < text.length() && end < from + most && text.charAt(end) < 128 && Character.digit(text.charAt(end), base) >= 0) {
            end++;
        }
        return end;
    }

    static int complete(String script) {
        PlainCutter cutter = new PlainCutter(script);
        try {
            Command command = cutter.next(false, 0);
            while (command != null) {
                command = cutter.next(false, 0);
            }
            return 1;
        } catch (Fault fault) {
            return fault.text.startsWith("missing") ? 0 : 2;
        }
    }
}
