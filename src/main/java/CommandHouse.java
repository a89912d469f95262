import java.util.Arrays;

/**
 * A house of commands: scripts are cut, their commands evaluated, and all that is known is a row of letters.
 *
 * Scripts may stand a hundred deep and coroutines stop anywhere, so nothing of an evaluation stands on Java's own
 * stack: all of it lies on one row of numbers (Core.stack), a frame above the other, with no place told but by its
 * distance from its frame. A coroutine that stops is a piece of that row, laid aside. Only WATCHES, in which nothing
 * may stop and of which the document lets ten stand within one another, are run by a call of the runner in itself.
 */
public final class CommandHouse {
    public static final int NONE = -1;

    // The document's limits.
    private static final int TAPE_LIMIT = 6000;
    private static final int OUTPUT_LIMIT = 3000;
    private static final int WORK_LIMIT = 30000;
    private static final int USED_LIMIT = 60000;
    private static final int TEXT_LIMIT = 40000;
    private static final int DEEPEST = 100;
    private static final int NESTED = 50;
    private static final int WATCHES_LIMIT = 10;
    private static final int RUNNING_LIMIT = 20;
    // Far above the turns that 30000 of WORK can ask for.
    private static final int TURNS = 100000000;

    // Letters that have a name in the document.
    private static final int TAB = 9;
    private static final int LINE = 10;
    private static final int BLANK = 32;

    // Texts and records are numbers far above all places and sizes, so that a row of numbers shows what it leads to.
    private static final int TEXT = 1 << 29;
    private static final int RECORD = 1 << 30;
    private static final int EMPTY = TEXT;

    // A record's cells. What several kinds have stands at one place.
    private static final int CELLS = 12;
    private static final int CHAIN = 1;
    private static final int NAME = 2;
    private static final int NEXT_ONE = 3;
    private static final int VARIABLES = 4;
    private static final int ROOM = 5;
    // of a room
    private static final int CHILDREN = 6;
    private static final int COMMANDS = 7;
    // of a variable; of a LINK the VALUE is the INDEX of the ELEMENT that it leads to, or 0
    private static final int STATE = 4;
    private static final int VALUE_OF = 5;
    private static final int TARGET = 6;
    private static final int FIRST = 7;
    private static final int LAST = 8;
    private static final int WATCHES = 9;
    private static final int BUSY = 10;
    private static final int OWN = 11;
    // of a WATCH, its command being its NAME
    private static final int ACTS = 4;
    private static final int REMOVED = 5;
    // of a command
    private static final int TYPE = 4;
    private static final int FORMALS = 6;
    private static final int BODY = 7;
    private static final int SAVED = 8;
    private static final int SAVED_SIZE = 9;
    private static final int IS_RUNNING = 10;
    private static final int OUTER = 11;
    // of a level
    private static final int NUMBER = 6;
    private static final int BELOW = 7;
    private static final int LAST_ONE = 8;
    private static final int CALLED_AT = 9;
    private static final int OWNER = 10;
    // of a piece of a stack that is laid aside
    private static final int PIECE = 4;

    // The kinds of records.
    private static final int A_ROOM = 1;
    private static final int A_VARIABLE = 2;
    private static final int A_WATCH = 3;
    private static final int A_COMMAND = 4;
    private static final int A_LEVEL = 5;
    private static final int A_PIECE = 6;

    // What a variable is.
    private static final int NOT_THERE = 0;
    private static final int HAS_VALUE = 1;
    private static final int IS_ARRAY = 2;
    private static final int IS_LINK = 3;

    // The acts that WATCHES are for.
    private static final int READ = 1;
    private static final int WRITE = 2;
    private static final int UNSET = 4;

    // The types of commands that no one of Told is.
    private static final int PROCEDURE = -1;
    private static final int COROUTINE = -2;

    // The codes.
    private static final int FINE = 0;
    private static final int ERROR = 1;
    private static final int RETURN = 2;
    private static final int BREAK = 3;
    private static final int CONTINUE = 4;

    // What the runner does next.
    private static final int DO_TOKEN = 0;
    private static final int DO_COMMAND = 1;
    private static final int DO_RESUME = 2;

    // A frame's places; those of tokens.
    private static final int KIND = 0;
    private static final int BACK = 1;
    private static final int DEPTH = 2;
    private static final int LEVEL = 3;
    private static final int HEADER = 4;
    private static final int SOURCE = 4;
    private static final int PLACE = 5;
    private static final int TOKEN = 6;
    private static final int BASE = 7;
    private static final int OPEN = 8;
    private static final int CODE = 9;
    // Those of a command that goes on: its words stand just below its frame.
    private static final int WORDS = 4;
    private static final int STAGE = 5;
    private static final int ROUNDS = 6;
    private static final int FIRST_NAME = 7;
    private static final int GATHERS = 8;
    private static final int CURSORS = 9;
    private static final int KEPT_CODE = 6;
    private static final int KEPT_ANSWER = 7;
    private static final int KEPT_LEFT = 8;
    private static final int KEPT_THEN = 9;
    private static final int NEW_LEVEL = 5;
    private static final int WHO = 5;
    private static final int WATCHED_THEN = 6;
    private static final int FRAME_THEN = 7;
    private static final int COROUTINE_SIZE = 8;

    // The kinds of frames.
    private static final int SCRIPT_FRAME = 1;
    private static final int EXPRESSION_FRAME = 2;
    private static final int SUBST_FRAME = 3;
    private static final int IF_FRAME = 4;
    private static final int WHILE_FRAME = 5;
    private static final int FOR_FRAME = 6;
    private static final int EACH_FRAME = 7;
    private static final int CATCH_FRAME = 8;
    private static final int TRY_FRAME = 9;
    private static final int CALL_FRAME = 10;
    private static final int ROOM_FRAME = 11;
    private static final int COROUTINE_FRAME = 12;

    // The tokens that scripts and expressions are cut into.
    private static final int T_NEXT = 0;
    private static final int T_BEGIN = 1;
    private static final int T_ROW = 2;
    private static final int T_RAW = 3;
    private static final int T_VALUE = 4;
    private static final int T_ELEMENT = 5;
    private static final int T_CLEAR = 6;
    private static final int T_PUT = 7;
    private static final int T_TICK = 8;
    private static final int T_JOIN = 9;
    private static final int T_SPREAD = 10;
    private static final int T_RUN = 11;
    private static final int T_FINISH = 12;
    private static final int T_OPERAND = 13;
    private static final int T_UNARY = 14;
    private static final int T_BINARY = 15;
    private static final int T_FUNCTION = 16;
    private static final int T_AND = 17;
    private static final int T_OR = 18;
    private static final int T_TRUTH = 19;
    private static final int T_CHOOSE = 20;
    private static final int T_JUMP = 21;

    // The faults of cutting.
    private static final int MISSING_BRACE = 1;
    private static final int MISSING_QUOTE = 2;
    private static final int MISSING_BRACKET = 3;
    private static final int MISSING_PARENTHESIS = 4;
    private static final int BEHIND_BRACE = 5;
    private static final int BEHIND_QUOTE = 6;
    private static final int TOO_DEEP = 7;
    private static final int BAD_EXPRESSION = 8;

    // The operators and what else waits while an expression is cut; those between two operands are 16 times how much
    // they bind, and one more for each of the same.
    private static final int MINUS_AHEAD = 1;
    private static final int PLUS_AHEAD = 2;
    private static final int TILDE_AHEAD = 3;
    private static final int NOT_AHEAD = 4;
    private static final int PARENTHESIS = 5;
    private static final int QUESTION = 6;
    private static final int COLON = 7;
    private static final int ABS = 8;
    private static final int MIN = 9;
    private static final int MAX = 10;
    private static final int EITHER = 16;
    private static final int BOTH = 32;
    private static final int OR = 48;
    private static final int XOR = 64;
    private static final int AND = 80;
    private static final int IN = 96;
    private static final int NOT_IN = 97;
    private static final int SAME = 112;
    private static final int OTHER = 113;
    private static final int EQUAL = 128;
    private static final int UNEQUAL = 129;
    private static final int LESS = 144;
    private static final int GREATER = 145;
    private static final int AT_MOST = 146;
    private static final int AT_LEAST = 147;
    private static final int LEFT_SHIFT = 160;
    private static final int RIGHT_SHIFT = 161;
    private static final int PLUS = 176;
    private static final int MINUS = 177;
    private static final int TIMES = 192;
    private static final int DIVIDED = 193;
    private static final int MODULO = 194;
    private static final int POWER = 208;

    // The classes that the commands stand in.
    private static final int A_FAMILY = 0;
    private static final int OF_NAMES = 1;
    private static final int OF_LISTS = 2;
    private static final int OF_DICTIONARIES = 3;
    private static final int OF_LETTERS = 4;
    private static final int OF_CONTROL = 5;
    private static final int ANY = Integer.MAX_VALUE;

    private static final Told[] ALL_TOLD = Told.values();

    private final byte[] tape = new byte[TAPE_LIMIT];
    private int fed;
    private byte[] result = new byte[256];
    private int resultSize;
    private int worked;
    private int began;
    private int used;
    private int fulls;
    private final Core core;
    private final Cutter cutter;
    private final Names names;
    private final Runner runner;

    public CommandHouse() {
        Store store = new Store();
        core = new Core(store);
        Letters letters = new Letters(store);
        Lists lists = new Lists(core, letters);
        cutter = new Cutter(core, letters);
        names = new Names(core, lists);
        Formula formula = new Formula(cutter, lists);
        runner = new Runner(core, cutter, formula, names);
        names.runner = runner;
        Control control = new Control(runner, lists);
        runner.control = control;
        runner.nameCommands = new NameCommands(runner, lists);
        runner.listCommands = new ListCommands(control, lists);
        runner.letterCommands = new LetterCommands(runner, lists);
        names.renew();
    }

    public int feed(int a, int b, int c, int d, int e) {
        if (fed + 20 > TAPE_LIMIT) {
            return NONE;
        }
        feedOne(a);
        feedOne(b);
        feedOne(c);
        feedOne(d);
        feedOne(e);
        return fed;
    }

    private void feedOne(int number) {
        for (int shift = 24; shift >= 0 && fed < TAPE_LIMIT; shift -= 8) {
            tape[fed] = (byte) (number >> shift);
            fed++;
        }
    }

    public int evaluate(int n) {
        if (n < 0 || n > fed) {
            return NONE;
        }
        core.begin();
        int script = tapeText(n);
        fed = 0;
        runner.start(script);
        int ends = ending();
        keepResult(core.answer);
        core.rest();
        worked = core.work;
        began = core.begun;
        used += worked;
        if (used > USED_LIMIT) {
            used = 0;
            fulls++;
            names.renew();
        }
        return ends;
    }

    private int tapeText(int n) {
        core.store.open();
        for (int i = 0; i < n && i < TAPE_LIMIT; i++) {
            core.store.put(tape[i]);
        }
        return core.close();
    }

    private int ending() {
        if (core.halted) {
            runner.abandon();
            core.answer = EMPTY;
            return 2;
        }
        if (core.code == FINE || core.code == RETURN) {
            return 0;
        }
        if (core.code != ERROR) {
            core.fail("code ", core.number(core.code));
        }
        return 1;
    }

    private void keepResult(int text) {
        resultSize = core.store.size(text);
        if (resultSize > result.length) {
            result = new byte[Math.max(resultSize, Math.min(2 * result.length, TEXT_LIMIT))];
        }
        for (int i = 0; i < resultSize && i < result.length; i++) {
            result[i] = (byte) core.store.letter(text, i);
        }
    }

    public int complete(int n) {
        if (n < 0 || n > fed) {
            return NONE;
        }
        core.collect();
        int script = tapeText(n);
        int from = 0;
        int fault = 0;
        for (int i = 0; i <= n && fault == 0 && cutter.findCommand(script, from); i++) {
            fault = cutter.cutCommand();
            from = cutter.at;
            core.top = HEADER;
        }
        core.top = HEADER;
        return fault == 0 ? 1 : fault <= MISSING_PARENTHESIS ? 0 : 2;
    }

    public int told(int what, int i) {
        if (i < 0) {
            return NONE;
        }
        if (what == 0 && i < core.outputSize && i < OUTPUT_LIMIT) {
            return core.output[i] & 255;
        }
        if (what == 1 && i < resultSize && i < result.length) {
            return result[i] & 255;
        }
        return NONE;
    }

    public int sum(int what) {
        if (what != 0 && what != 1) {
            return NONE;
        }
        int all = 0;
        int size = what == 0 ? core.outputSize : resultSize;
        for (int i = 0; i < size; i++) {
            all = 31 * all + told(what, i);
        }
        return all;
    }

    public int count(int what) {
        switch (what) {
            case 0: return core.outputSize;
            case 1: return resultSize;
            case 2: return worked;
            case 3: return used;
            case 4: return fulls;
            case 5: return fed;
            case 6: return began;
            case 7: return names.coroutines;
            case 8: return names.rooms;
            case 9: return names.procedures;
            default: return NONE;
        }
    }

    /** All commands that the house knows by itself, in the order in which the document tells them, and the words of families. */
    private enum Told {
        SET("", "set", OF_NAMES, 1, 2),
        INCR("", "incr", OF_NAMES, 1, 2),
        APPEND("", "append", OF_NAMES, 1, ANY),
        LAPPEND("", "lappend", OF_NAMES, 1, ANY),
        UNSET_NAMES("", "unset", OF_NAMES, 0, ANY),
        GLOBAL("", "global", OF_NAMES, 0, ANY),
        VARIABLE("", "variable", OF_NAMES, 1, ANY),
        UPVAR("", "upvar", OF_NAMES, 2, ANY),
        ARRAY("", "array", A_FAMILY, 1, ANY),
        INFO("", "info", A_FAMILY, 1, ANY),
        TRACE("", "trace", A_FAMILY, 1, ANY),
        LIST("", "list", OF_LISTS, 0, ANY),
        LLENGTH("", "llength", OF_LISTS, 1, 1),
        LINDEX("", "lindex", OF_LISTS, 1, ANY),
        LSET("", "lset", OF_LISTS, 2, ANY),
        LRANGE("", "lrange", OF_LISTS, 3, 3),
        LINSERT("", "linsert", OF_LISTS, 2, ANY),
        LREPLACE("", "lreplace", OF_LISTS, 3, ANY),
        LREVERSE("", "lreverse", OF_LISTS, 1, 1),
        LREPEAT("", "lrepeat", OF_LISTS, 1, ANY),
        CONCAT("", "concat", OF_LISTS, 0, ANY),
        JOIN("", "join", OF_LISTS, 1, 2),
        SPLIT("", "split", OF_LISTS, 1, 2),
        LASSIGN("", "lassign", OF_LISTS, 1, ANY),
        LSEARCH("", "lsearch", OF_LISTS, 2, 3),
        LSORT("", "lsort", OF_LISTS, 1, 4),
        FOREACH("", "foreach", OF_CONTROL, 3, ANY),
        LMAP("", "lmap", OF_CONTROL, 3, ANY),
        DICT("", "dict", A_FAMILY, 1, ANY),
        STRING("", "string", A_FAMILY, 1, ANY),
        SUBST("", "subst", OF_CONTROL, 1, 1),
        PUTS("", "puts", OF_LETTERS, 1, 2),
        EVAL("", "eval", OF_CONTROL, 1, ANY),
        EXPR("", "expr", OF_CONTROL, 1, ANY),
        IF("", "if", OF_CONTROL, 2, ANY),
        WHILE("", "while", OF_CONTROL, 2, 2),
        FOR("", "for", OF_CONTROL, 4, 4),
        SWITCH("", "switch", OF_CONTROL, 2, ANY),
        CATCH("", "catch", OF_CONTROL, 1, 2),
        TRY("", "try", OF_CONTROL, 3, 3),
        ERROR_WITH("", "error", OF_CONTROL, 1, 1),
        BREAK_OFF("", "break", OF_CONTROL, 0, 0),
        GO_ON("", "continue", OF_CONTROL, 0, 0),
        RETURN_WITH("", "return", OF_CONTROL, 0, 5),
        UPLEVEL("", "uplevel", OF_CONTROL, 0, ANY),
        PROC("", "proc", OF_CONTROL, 3, 3),
        APPLY("", "apply", OF_CONTROL, 1, ANY),
        RENAME("", "rename", OF_CONTROL, 2, 2),
        NAMESPACE("", "namespace", A_FAMILY, 1, ANY),
        COROUTINE_NEW("", "coroutine", OF_CONTROL, 2, ANY),
        YIELD("", "yield", OF_CONTROL, 0, 1),

        ARRAY_EXISTS("array", "exists", OF_NAMES, 1, 1),
        ARRAY_SET("array", "set", OF_NAMES, 2, 2),
        ARRAY_GET("array", "get", OF_NAMES, 1, 2),
        ARRAY_NAMES("array", "names", OF_NAMES, 1, 2),
        ARRAY_SIZE("array", "size", OF_NAMES, 1, 1),
        ARRAY_UNSET("array", "unset", OF_NAMES, 1, 2),
        INFO_EXISTS("info", "exists", OF_NAMES, 1, 1),
        INFO_LEVEL("info", "level", OF_NAMES, 0, 1),
        INFO_COMMANDS("info", "commands", OF_NAMES, 0, 1),
        INFO_PROCS("info", "procs", OF_NAMES, 0, 1),
        INFO_ARGS("info", "args", OF_NAMES, 1, 1),
        INFO_BODY("info", "body", OF_NAMES, 1, 1),
        INFO_COROUTINE("info", "coroutine", OF_NAMES, 0, 0),
        TRACE_ADD("trace", "add", OF_NAMES, 4, 4),
        TRACE_REMOVE("trace", "remove", OF_NAMES, 4, 4),
        TRACE_INFO("trace", "info", OF_NAMES, 2, 2),
        DICT_CREATE("dict", "create", OF_DICTIONARIES, 0, ANY),
        DICT_GET("dict", "get", OF_DICTIONARIES, 1, ANY),
        DICT_EXISTS("dict", "exists", OF_DICTIONARIES, 2, ANY),
        DICT_SET("dict", "set", OF_DICTIONARIES, 3, ANY),
        DICT_UNSET("dict", "unset", OF_DICTIONARIES, 2, ANY),
        DICT_INCR("dict", "incr", OF_DICTIONARIES, 2, 3),
        DICT_LAPPEND("dict", "lappend", OF_DICTIONARIES, 2, ANY),
        DICT_KEYS("dict", "keys", OF_DICTIONARIES, 1, 2),
        DICT_VALUES("dict", "values", OF_DICTIONARIES, 1, 1),
        DICT_SIZE("dict", "size", OF_DICTIONARIES, 1, 1),
        DICT_MERGE("dict", "merge", OF_DICTIONARIES, 0, ANY),
        DICT_FOR("dict", "for", OF_DICTIONARIES, 3, 3),
        STRING_LENGTH("string", "length", OF_LETTERS, 1, 1),
        STRING_INDEX("string", "index", OF_LETTERS, 2, 2),
        STRING_RANGE("string", "range", OF_LETTERS, 3, 3),
        STRING_FIRST("string", "first", OF_LETTERS, 2, 2),
        STRING_LAST("string", "last", OF_LETTERS, 2, 2),
        STRING_COMPARE("string", "compare", OF_LETTERS, 2, 2),
        STRING_EQUAL("string", "equal", OF_LETTERS, 2, 2),
        STRING_MATCH("string", "match", OF_LETTERS, 2, 2),
        STRING_MAP("string", "map", OF_LETTERS, 2, 2),
        STRING_REPEAT("string", "repeat", OF_LETTERS, 2, 2),
        STRING_REVERSE("string", "reverse", OF_LETTERS, 1, 1),
        STRING_TOLOWER("string", "tolower", OF_LETTERS, 1, 1),
        STRING_TOUPPER("string", "toupper", OF_LETTERS, 1, 1),
        STRING_TRIM("string", "trim", OF_LETTERS, 1, 2),
        STRING_TRIMLEFT("string", "trimleft", OF_LETTERS, 1, 2),
        STRING_TRIMRIGHT("string", "trimright", OF_LETTERS, 1, 2),
        STRING_CAT("string", "cat", OF_LETTERS, 0, ANY),
        STRING_IS("string", "is", OF_LETTERS, 2, 2),
        NAMESPACE_EVAL("namespace", "eval", OF_CONTROL, 1, ANY),
        NAMESPACE_CURRENT("namespace", "current", OF_CONTROL, 0, 0),
        NAMESPACE_EXISTS("namespace", "exists", OF_CONTROL, 1, 1),
        NAMESPACE_DELETE("namespace", "delete", OF_CONTROL, 1, 1),
        NAMESPACE_QUALIFIERS("namespace", "qualifiers", OF_CONTROL, 1, 1),
        NAMESPACE_TAIL("namespace", "tail", OF_CONTROL, 1, 1);

        private final String family;
        private final String text;
        private final int home;
        private final int least;
        private final int most;

        Told(String family, String text, int home, int least, int most) {
            this.family = family;
            this.text = text;
            this.home = home;
            this.least = least;
            this.most = most;
        }
    }

    /**
     * Texts and records, in rows that are used again: what a run makes is counted and never given back, so the house
     * keeps its own memory and collects it itself. Texts lie one behind the other in the order of their chain.
     */
    private static final class Store {
        private byte[] letters = new byte[1 << 14];
        private int used;
        private int start;
        private boolean over;
        private int[] from = new int[1 << 10];
        private int[] length = new int[1 << 10];
        private int[] after = new int[1 << 10];
        private boolean[] reached = new boolean[1 << 10];
        private int texts;
        private int heldTexts;
        private int freeText;
        private int firstText;
        private int lastText;
        private int[] cells = new int[CELLS << 8];
        private int records;
        private int heldRecords;
        private int freeRecord;
        private int waiting;
        private int letterGoal;
        private int textGoal;
        private int recordGoal;

        private void clear() {
            used = 0;
            over = false;
            texts = 1;
            heldTexts = 0;
            freeText = 0;
            firstText = 0;
            lastText = 0;
            from[0] = 0;
            length[0] = 0;
            records = 0;
            heldRecords = 0;
            freeRecord = 0;
            setGoals();
        }

        private int size(int text) {
            int t = text - TEXT;
            return t < 0 || t >= texts ? 0 : length[t];
        }

        /** A letter of a text; -1 outside of it. */
        private int letter(int text, int i) {
            int t = text - TEXT;
            if (t < 0 || t >= texts || i < 0 || i >= length[t]) {
                return -1;
            }
            return letters[from[t] + i] & 255;
        }

        /** Begins a new text: only one is built at a time, behind all others. */
        private void open() {
            start = used;
            over = false;
        }

        private void put(int letter) {
            if (used - start >= TEXT_LIMIT) {
                over = true;
                return;
            }
            if (used >= letters.length) {
                letters = Arrays.copyOf(letters, 2 * letters.length);
            }
            letters[used] = (byte) letter;
            used++;
        }

        private void putPart(int text, int a, int b) {
            for (int i = a; i < b && !over; i++) {
                put(letter(text, i));
            }
        }

        private void putText(int text) {
            putPart(text, 0, size(text));
        }

        private void putWord(String word) {
            for (int i = 0; i < word.length(); i++) {
                put(word.charAt(i));
            }
        }

        /** Ends the text that was begun; one that was too long has no letters, and over tells it. */
        private int close() {
            if (over) {
                used = start;
            }
            if (used == start) {
                return EMPTY;
            }
            int t = newText();
            from[t] = start;
            length[t] = used - start;
            after[t] = 0;
            if (lastText == 0) {
                firstText = t;
            } else {
                after[lastText] = t;
            }
            lastText = t;
            return TEXT + t;
        }

        private int newText() {
            heldTexts++;
            int t = freeText;
            if (t > 0) {
                freeText = after[t];
                return t;
            }
            if (texts >= from.length) {
                int more = 2 * from.length;
                from = Arrays.copyOf(from, more);
                length = Arrays.copyOf(length, more);
                after = Arrays.copyOf(after, more);
                boolean[] marks = new boolean[more];
                for (int i = 0; i < reached.length; i++) {
                    marks[i] = reached[i];
                }
                reached = marks;
            }
            texts++;
            return texts - 1;
        }

        private int part(int text, int a, int b) {
            if (a <= 0 && b >= size(text)) {
                return text;
            }
            open();
            putPart(text, a, b);
            return close();
        }

        private boolean same(int a, int b) {
            return a == b || size(a) == size(b) && samePart(a, b, 0, size(b));
        }

        /** Whether a text is letters from .. to of another one. */
        private boolean samePart(int whole, int text, int from, int to) {
            if (size(whole) != to - from) {
                return false;
            }
            for (int i = from; i < to; i++) {
                if (letter(whole, i - from) != letter(text, i)) {
                    return false;
                }
            }
            return true;
        }

        private boolean is(int text, String word) {
            if (size(text) != word.length()) {
                return false;
            }
            for (int i = 0; i < word.length(); i++) {
                if (letter(text, i) != word.charAt(i)) {
                    return false;
                }
            }
            return true;
        }

        private int newRecord(int kind) {
            heldRecords++;
            int r = freeRecord - 1;
            if (r >= 0) {
                freeRecord = cells[r * CELLS + CHAIN];
            } else {
                r = records;
                records++;
                if (records * CELLS > cells.length) {
                    cells = Arrays.copyOf(cells, 2 * cells.length);
                }
            }
            Arrays.fill(cells, r * CELLS, r * CELLS + CELLS, 0);
            cells[r * CELLS] = kind;
            return RECORD + r;
        }

        /** A record's cell; 0 of what is no record. */
        private int get(int record, int cell) {
            int r = record - RECORD;
            return r < 0 || r >= records || cell < 0 || cell >= CELLS ? 0 : cells[r * CELLS + cell];
        }

        private void set(int record, int cell, int value) {
            int r = record - RECORD;
            if (r >= 0 && r < records && cell >= 0 && cell < CELLS) {
                cells[r * CELLS + cell] = value;
            }
        }

        private boolean isCrowded() {
            return used > letterGoal || heldTexts > textGoal || heldRecords > recordGoal;
        }

        private void setGoals() {
            letterGoal = Math.max(12000, 2 * used);
            textGoal = Math.max(900, 2 * heldTexts);
            recordGoal = Math.max(240, 2 * heldRecords);
        }

        /** What a number leads to is kept. A number that only looks like one of a text or record does no harm. */
        private void mark(int number) {
            int t = number - TEXT;
            int r = number - RECORD;
            if (t > 0 && t < texts) {
                reached[t] = true;
            } else if (r >= 0 && r < records && cells[r * CELLS] > 0) {
                cells[r * CELLS] = -cells[r * CELLS];
                cells[r * CELLS + CHAIN] = waiting;
                waiting = number;
            }
        }

        private void markAllWaiting() {
            for (int i = 0; i < records && waiting != 0; i++) {
                int record = waiting;
                waiting = get(record, CHAIN);
                for (int cell = NAME; cell < CELLS; cell++) {
                    mark(get(record, cell));
                }
            }
        }

        private void sweep() {
            markAllWaiting();
            sweepTexts();
            for (int r = 0; r < records; r++) {
                int kind = cells[r * CELLS];
                if (kind < 0) {
                    cells[r * CELLS] = -kind;
                } else if (kind > 0) {
                    cells[r * CELLS] = 0;
                    cells[r * CELLS + CHAIN] = freeRecord;
                    freeRecord = r + 1;
                    heldRecords--;
                }
            }
            setGoals();
        }

        /** Moves the texts that are kept together, in their order. */
        private void sweepTexts() {
            int t = firstText;
            used = 0;
            firstText = 0;
            lastText = 0;
            for (int i = 0; i < texts && t > 0; i++) {
                int next = after[t];
                if (reached[t]) {
                    reached[t] = false;
                    System.arraycopy(letters, from[t], letters, used, length[t]);
                    from[t] = used;
                    used += length[t];
                    after[t] = 0;
                    if (lastText == 0) {
                        firstText = t;
                    } else {
                        after[lastText] = t;
                    }
                    lastText = t;
                } else {
                    length[t] = 0;
                    after[t] = freeText;
                    freeText = t;
                    heldTexts--;
                }
                t = next;
            }
        }
    }

    /** The stack of an evaluation, how its latest command ended, and its WORK. */
    private static final class Core {
        private final Store store;
        private final byte[] output = new byte[OUTPUT_LIMIT];
        private int outputSize;
        private int[] stack = new int[1 << 11];
        private int top = HEADER;
        private int frame;
        private int task;
        private int args;
        private int words;
        private int code;
        private int answer = EMPTY;
        private int left;
        private int then;
        private int work;
        private int begun;
        private boolean halted;

        private Core(Store store) {
            this.store = store;
        }

        private void begin() {
            rest();
            collect();
            work = 0;
            begun = 0;
            halted = false;
            outputSize = 0;
        }

        private void rest() {
            answer = EMPTY;
            code = FINE;
            top = HEADER;
            frame = 0;
        }

        /** Only where no call at hand holds a text or record that the stack doesn't lead to. */
        private void collect() {
            if (store.isCrowded()) {
                for (int i = 0; i < top; i++) {
                    store.mark(at(i));
                }
                store.mark(answer);
                store.sweep();
            }
        }

        private void push(int number) {
            if (top >= stack.length) {
                stack = Arrays.copyOf(stack, 2 * stack.length);
            }
            stack[top] = number;
            top++;
        }

        private int at(int place) {
            return place < 0 || place >= stack.length ? 0 : stack[place];
        }

        private void put(int place, int number) {
            if (place >= 0 && place < stack.length) {
                stack[place] = number;
            }
        }

        /** Takes the number on top off the stack. */
        private int pop() {
            if (top <= HEADER) {
                return 0;
            }
            top--;
            return at(top);
        }

        /** A word of the command at hand, its own name being word 0. */
        private int word(int i) {
            return i < 0 || i >= words ? EMPTY : at(args + i);
        }

        private boolean isWord(int i, String word) {
            return i < words && store.is(word(i), word);
        }

        private int depth() {
            return at(frame + DEPTH);
        }

        private int level() {
            return at(frame + LEVEL);
        }

        /** Counts WORK; false by the LIMIT. */
        private boolean spend(int amount) {
            if (halted) {
                return false;
            }
            if (amount > WORK_LIMIT - work) {
                halt();
                return false;
            }
            work += amount;
            return true;
        }

        private void halt() {
            halted = true;
            work = WORK_LIMIT;
        }

        /** Ends the text that is built: one that is too long is the LIMIT. */
        private int close() {
            int text = store.close();
            if (store.over) {
                halt();
            }
            return text;
        }

        private int number(long value) {
            store.open();
            if (value < 0) {
                store.put('-');
            }
            // Below 0 all numbers have a place, also the least one.
            long rest = value < 0 ? value : -value;
            long unit = 1;
            for (int i = 0; i < 18 && rest / unit <= -10; i++) {
                unit *= 10;
            }
            for (int i = 0; i < 20 && unit > 0; i++) {
                store.put((int) ('0' - rest / unit % 10));
                unit /= 10;
            }
            return close();
        }

        private boolean give(int text) {
            code = FINE;
            answer = text;
            return true;
        }

        private boolean giveNumber(long value) {
            return give(number(value));
        }

        private boolean giveTruth(boolean truth) {
            return give(number(truth ? 1 : 0));
        }

        /** Ends with an ERROR; false, so that a call may end with it. */
        private boolean fail(String message) {
            return fail(message, EMPTY);
        }

        private boolean fail(String message, int text) {
            store.open();
            store.putWord(message);
            store.putText(text);
            answer = close();
            code = ERROR;
            return false;
        }

        private boolean failArguments() {
            return fail("arguments: ", word(0));
        }

        private void print(int letter) {
            if (outputSize < OUTPUT_LIMIT) {
                output[outputSize] = (byte) letter;
                outputSize++;
            }
        }
    }

    /** What single letters and texts are: kinds of letters, INTEGERS, truths, order, PATTERNS, letters behind a \. */
    private static final class Letters {
        private final Store store;
        private long number;
        private int next;

        private Letters(Store store) {
            this.store = store;
        }

        private static boolean isWhite(int c) {
            return c >= TAB && c <= 13 || c == BLANK;
        }

        private static boolean isSpace(int c) {
            return isWhite(c) && c != LINE;
        }

        private static boolean isDigit(int c) {
            return c >= '0' && c <= '9';
        }

        private static boolean isUpper(int c) {
            return c >= 'A' && c <= 'Z';
        }

        private static boolean isLower(int c) {
            return c >= 'a' && c <= 'z';
        }

        private static boolean isNameLetter(int c) {
            return isLower(c) || isUpper(c) || isDigit(c) || c == '_';
        }

        /** What a digit counts in a radix; -1 if it is none. */
        private static int digit(int c, int radix) {
            int value = -1;
            if (isDigit(c)) {
                value = c - '0';
            } else if (isLower(c)) {
                value = c - 'a' + 10;
            } else if (isUpper(c)) {
                value = c - 'A' + 10;
            }
            return value < radix ? value : -1;
        }

        private boolean isGap(int text, int i) {
            return store.letter(text, i) == '\\' && store.letter(text, i + 1) == LINE;
        }

        /** Where a \ and the letter behind it, or the whole GAP, end. */
        private int pairEnd(int text, int i) {
            int size = store.size(text);
            if (i + 1 >= size) {
                return size;
            }
            int end = i + 2;
            if (store.letter(text, i + 1) == LINE) {
                while (end < size && isSpace(store.letter(text, end))) {
                    end++;
                }
            }
            return end;
        }

        /** The letter that a \ at i and what is behind it stand for; next is where that ends. */
        private int escaped(int text, int i) {
            int c = store.letter(text, i + 1);
            next = pairEnd(text, i);
            switch (c) {
                case -1: return '\\';
                case LINE: return BLANK;
                case 'a': return 7;
                case 'b': return 8;
                case 'f': return 12;
                case 'n': return LINE;
                case 'r': return 13;
                case 't': return TAB;
                case 'v': return 11;
                case 'x': return digit(store.letter(text, i + 2), 16) < 0 ? c : byDigits(text, i + 2, 16, 2);
                default: return digit(c, 8) < 0 ? c : byDigits(text, i + 1, 8, 3);
            }
        }

        private int byDigits(int text, int i, int radix, int most) {
            int value = 0;
            next = i;
            while (next < i + most && digit(store.letter(text, next), radix) >= 0) {
                value = value * radix + digit(store.letter(text, next), radix);
                next++;
            }
            return value & 255;
        }

        /** Puts letters from .. to behind the text that is built, with what \ stands for. */
        private void putEscaped(int text, int from, int to) {
            int i = from;
            while (i < to) {
                int c = store.letter(text, i);
                i++;
                if (c == '\\') {
                    c = escaped(text, i - 1);
                    i = Math.max(i, next);
                }
                store.put(c);
            }
        }

        /** Puts letters from .. to behind the text that is built, GAPS as a BLANK. */
        private void putRaw(int text, int from, int to) {
            int i = from;
            while (i < to) {
                int c = store.letter(text, i);
                boolean gap = isGap(text, i);
                int end = c == '\\' ? Math.min(to, pairEnd(text, i)) : i + 1;
                if (gap) {
                    store.put(BLANK);
                } else {
                    store.putPart(text, i, end);
                }
                i = Math.max(i + 1, end);
            }
        }

        private boolean isInteger(int text) {
            return isInteger(text, 0, store.size(text));
        }

        /** Whether letters from .. to are an INTEGER, which number is then. */
        private boolean isInteger(int text, int from, int to) {
            int i = from;
            int c = store.letter(text, i);
            boolean negative = c == '-';
            if (i < to && (negative || c == '+')) {
                i++;
            }
            int radix = 10;
            if (i + 1 < to && store.letter(text, i) == '0') {
                int kind = store.letter(text, i + 1);
                radix = kind == 'x' ? 16 : kind == 'b' ? 2 : kind == 'o' ? 8 : 10;
            }
            if (radix != 10) {
                i += 2;
            }
            return i < to && takeDigits(text, i, to, radix, negative);
        }

        private boolean takeDigits(int text, int from, int to, int radix, boolean negative) {
            long least = negative ? Long.MIN_VALUE : -Long.MAX_VALUE;
            long value = 0;
            for (int i = from; i < to; i++) {
                int d = digit(store.letter(text, i), radix);
                if (d < 0 || value < least / radix || value * radix < least + d) {
                    return false;
                }
                value = value * radix - d;
            }
            number = negative ? value : -value;
            return true;
        }

        /** 1 for a truth, 0 for none, -1 for another text. */
        private int truth(int text) {
            if (isInteger(text)) {
                return number == 0 ? 0 : 1;
            }
            if (store.is(text, "true") || store.is(text, "yes") || store.is(text, "on")) {
                return 1;
            }
            return store.is(text, "false") || store.is(text, "no") || store.is(text, "off") ? 0 : -1;
        }

        private int compare(int a, int b) {
            int both = Math.min(store.size(a), store.size(b));
            for (int i = 0; i < both; i++) {
                int difference = store.letter(a, i) - store.letter(b, i);
                if (difference != 0) {
                    return difference < 0 ? -1 : 1;
                }
            }
            return Integer.compare(store.size(a), store.size(b));
        }

        /** Whether a text fits a PATTERN: behind the latest * as few letters as can be are tried first. */
        private boolean fits(int pattern, int text) {
            int size = store.size(text);
            int i = 0;
            int p = 0;
            int star = -1;
            int tried = 0;
            while (i < size) {
                int behind = fitsOne(pattern, p, store.letter(text, i));
                if (store.letter(pattern, p) == '*') {
                    star = p;
                    tried = i;
                    p++;
                } else if (behind >= 0) {
                    p = behind;
                    i++;
                } else if (star >= 0) {
                    p = star + 1;
                    tried++;
                    i = tried;
                } else {
                    return false;
                }
            }
            while (store.letter(pattern, p) == '*') {
                p++;
            }
            return p >= store.size(pattern);
        }

        /** Where the part of a PATTERN at p ends if it fits the letter c; else -1. */
        private int fitsOne(int pattern, int p, int c) {
            int own = store.letter(pattern, p);
            int second = store.letter(pattern, p + 1);
            if (own == '?') {
                return p + 1;
            }
            if (own == '[') {
                return fitsSet(pattern, p + 1, c);
            }
            if (own == '\\' && second >= 0) {
                return second == c ? p + 2 : -1;
            }
            return own == c ? p + 1 : -1;
        }

        private int fitsSet(int pattern, int from, int c) {
            int size = store.size(pattern);
            int end = from;
            while (end < size && store.letter(pattern, end) != ']') {
                end++;
            }
            boolean found = false;
            int i = from;
            while (i < end && end < size) {
                int a = store.letter(pattern, i);
                int b = a;
                if (i + 2 < end && store.letter(pattern, i + 1) == '-') {
                    b = store.letter(pattern, i + 2);
                    i += 2;
                }
                found = found || c >= Math.min(a, b) && c <= Math.max(a, b);
                i++;
            }
            return found ? end + 1 : -1;
        }
    }

    /** Texts as lists and DICTIONARIES, and how these are written. */
    private static final class Lists {
        private final Core core;
        private final Store store;
        private final Letters letters;
        private int list;
        private int at;
        private int from;
        private int to;
        private boolean plain;
        private int fault;
        private long place;

        private Lists(Core core, Letters letters) {
            this.core = core;
            this.store = core.store;
            this.letters = letters;
        }

        private void begin(int text, int i) {
            list = text;
            at = i;
            fault = 0;
        }

        /** Goes to the next element; false behind the last one, and if there is a fault. */
        private boolean next() {
            int size = store.size(list);
            while (at < size && Letters.isWhite(store.letter(list, at))) {
                at++;
            }
            if (at >= size || fault != 0) {
                return false;
            }
            int c = store.letter(list, at);
            plain = true;
            if (c == '{') {
                nextBraced(size);
            } else if (c == '"') {
                nextQuoted(size);
            } else {
                nextBare(size);
            }
            return fault == 0;
        }

        private void nextBraced(int size) {
            int deep = 1;
            from = at + 1;
            to = from;
            while (to < size && deep > 0) {
                int c = store.letter(list, to);
                if (c == '\\') {
                    to = letters.pairEnd(list, to);
                } else {
                    deep += c == '{' ? 1 : c == '}' ? -1 : 0;
                    to++;
                }
            }
            to--;
            endsWith(deep == 0, MISSING_BRACE, BEHIND_BRACE);
        }

        private void nextQuoted(int size) {
            from = at + 1;
            to = from;
            while (to < size && store.letter(list, to) != '"') {
                to = passLetter();
            }
            endsWith(to < size, MISSING_QUOTE, BEHIND_QUOTE);
        }

        private void nextBare(int size) {
            from = at;
            to = at;
            while (to < size && !Letters.isWhite(store.letter(list, to))) {
                to = passLetter();
            }
            at = to;
        }

        private int passLetter() {
            if (store.letter(list, to) != '\\') {
                return to + 1;
            }
            plain = false;
            return letters.pairEnd(list, to);
        }

        private void endsWith(boolean closed, int missing, int behind) {
            at = to + 1;
            int c = store.letter(list, at);
            if (!closed) {
                fault = missing;
            } else if (c >= 0 && !Letters.isWhite(c)) {
                fault = behind;
            }
        }

        /** The text of the element at hand. */
        private int element() {
            if (plain) {
                return store.part(list, from, to);
            }
            store.open();
            letters.putEscaped(list, from, to);
            return core.close();
        }

        private boolean failFault() {
            switch (fault) {
                case MISSING_BRACE: return core.fail("missing brace");
                case MISSING_QUOTE: return core.fail("missing quote");
                case BEHIND_BRACE: return core.fail("letters behind brace");
                default: return core.fail("letters behind quote");
            }
        }

        /** How many elements there are; -1, and the ERROR, if the text is no list. */
        private int elements(int text) {
            begin(text, 0);
            int many = 0;
            while (next()) {
                many++;
            }
            if (fault != 0) {
                failFault();
                return -1;
            }
            return many;
        }

        /** Pushes all elements on the stack: how many; -1, and the ERROR, if the text is no list. */
        private int pushAll(int text) {
            int bottom = core.top;
            begin(text, 0);
            while (next()) {
                core.push(element());
            }
            if (fault != 0) {
                core.top = bottom;
                failFault();
                return -1;
            }
            return core.top - bottom;
        }

        /** Pushes keys and values by turns, each key once: how many of both; -1 with the ERROR. */
        private int pushPairs(int text) {
            int bottom = core.top;
            int many = pushAll(text);
            if (many % 2 != 0) {
                if (many > 0) {
                    core.fail("no dictionary");
                }
                core.top = bottom;
                return -1;
            }
            mergePairs(bottom, many);
            return core.top - bottom;
        }

        /** Of a key that stands twice the later value stays, at the first one's place. */
        private void mergePairs(int bottom, int many) {
            int end = bottom;
            for (int i = bottom; i < bottom + many; i += 2) {
                int key = core.at(i);
                int place = findKey(bottom, end, key);
                if (place < 0) {
                    place = end;
                    end += 2;
                }
                core.put(place, key);
                core.put(place + 1, core.at(i + 1));
            }
            core.top = end;
        }

        /** Where a key stands among the pairs bottom .. end; -1 if it doesn't. */
        private int findKey(int bottom, int end, int key) {
            for (int i = bottom; i < end; i += 2) {
                if (store.same(core.at(i), key)) {
                    return i;
                }
            }
            return -1;
        }

        /** Puts letters of a text, as an element, behind the list that is built. */
        private void putElement(int text, int a, int b, boolean first) {
            boolean special = first && store.letter(text, a) == '#' && a < b;
            boolean slashed = false;
            boolean balanced = true;
            int deep = 0;
            for (int i = a; i < b; i++) {
                int c = store.letter(text, i);
                special = special || isSpecial(c) || Letters.isWhite(c);
                slashed = slashed || c == '\\';
                deep += c == '{' ? 1 : c == '}' ? -1 : 0;
                balanced = balanced && deep >= 0;
            }
            if (a < b && !special) {
                store.putPart(text, a, b);
            } else if (!slashed && balanced && deep == 0) {
                store.put('{');
                store.putPart(text, a, b);
                store.put('}');
            } else {
                putSlashed(text, a, b, first);
            }
        }

        private static boolean isSpecial(int c) {
            switch (c) {
                case '{', '}', '[', ']', '$', ';', '"', '\\': return true;
                default: return false;
            }
        }

        private void putSlashed(int text, int a, int b, boolean first) {
            for (int i = a; i < b; i++) {
                int c = store.letter(text, i);
                if (c == BLANK || isSpecial(c) || first && i == a && c == '#') {
                    store.put('\\');
                    store.put(c);
                } else if (Letters.isWhite(c)) {
                    store.put('\\');
                    store.put("tnvfr".charAt(c - TAB));
                } else {
                    store.put(c);
                }
            }
        }

        /** The list of many texts that stand from bottom on. */
        private int written(int bottom, int many) {
            store.open();
            for (int i = 0; i < many && !store.over; i++) {
                if (i > 0) {
                    store.put(BLANK);
                }
                int text = core.at(bottom + i);
                putElement(text, 0, store.size(text), i == 0);
            }
            return core.close();
        }

        /** The list of all texts from bottom on, which go. */
        private int popWritten(int bottom) {
            int text = written(bottom, core.top - bottom);
            core.top = bottom;
            return text;
        }

        /** Element i of a text that is a list; no letters outside. */
        private int elementAt(int text, long i) {
            begin(text, 0);
            for (long k = 0; next(); k++) {
                if (k == i) {
                    return element();
                }
            }
            return EMPTY;
        }

        /** Takes an INDEX of so many things, which place is then; false with the ERROR. */
        private boolean takeIndex(int text, int many) {
            if (letters.isInteger(text)) {
                place = letters.number;
                return true;
            }
            place = many - 1;
            if (store.is(text, "end")) {
                return true;
            }
            int size = store.size(text);
            int sign = store.letter(text, 3);
            boolean ahead = store.letter(text, 0) == 'e' && store.letter(text, 1) == 'n' && store.letter(text, 2) == 'd';
            if (!ahead || sign != '-' && sign != '+' || size < 5 || !letters.takeDigits(text, 4, size, 10, false)) {
                return core.fail("bad index: ", text);
            }
            // Far outside is outside, whatever the number.
            long far = Math.min(letters.number, 1L << 40);
            place = sign == '-' ? place - far : place + far;
            return true;
        }

        /** Words from .. behind one another, without WHITE at their ends. */
        private int concat(int from) {
            store.open();
            boolean first = true;
            for (int i = from; i < core.words && !store.over; i++) {
                int text = core.word(i);
                int a = 0;
                int b = store.size(text);
                while (a < b && Letters.isWhite(store.letter(text, a))) {
                    a++;
                }
                while (b > a && Letters.isWhite(store.letter(text, b - 1))) {
                    b--;
                }
                if (a < b && !first) {
                    store.put(BLANK);
                }
                first = first && a >= b;
                store.putPart(text, a, b);
            }
            return core.close();
        }

        /** The script of words from .. on. */
        private int script(int from) {
            return from == core.words - 1 ? core.word(from) : concat(from);
        }
    }

    /**
     * Cuts a command, with all that stands in it, into tokens on the stack. What stands within something else is kept
     * in a row of its own, not in calls of calls.
     */
    private static final class Cutter {
        // What the letters at hand belong to.
        private static final int DONE = 0;
        private static final int BETWEEN = 1;
        private static final int BARE = 2;
        private static final int QUOTED = 3;
        private static final int QUOTED_OPERAND = 4;
        private static final int INDEX = 5;
        private static final int WHOLE = 6;
        private static final int SINGLE = 7;
        private static final int SPREAD = 8;

        private final Core core;
        private final Store store;
        private final Letters letters;
        private final int[] around = new int[4 * NESTED];
        private int within;
        private int text;
        private int at;
        private int kind;
        private int parts;
        private int row;
        private int fault;
        private boolean spread;

        private Cutter(Core core, Letters letters) {
            this.core = core;
            this.store = core.store;
            this.letters = letters;
        }

        private void begin(int source, int from) {
            text = source;
            at = from;
            within = 0;
            fault = 0;
            spread = false;
        }

        /** Goes to the next command from a place on; false if there is none. */
        private boolean findCommand(int script, int from) {
            begin(script, from);
            passBlanks();
            return at < store.size(text);
        }

        /** Cuts the command that was found: the fault, or 0. */
        private int cutCommand() {
            core.push(T_BEGIN);
            kind = BETWEEN;
            cut();
            core.push(T_NEXT);
            return fault;
        }

        /** Cuts a whole text as what stands in quotes. */
        private int cutWhole(int source) {
            begin(source, 0);
            beginLetters(WHOLE);
            cut();
            core.push(T_FINISH);
            return fault;
        }

        /** Cuts the $ or [ ] at hand, as an operand. */
        private void cutSingle() {
            beginLetters(SINGLE);
            cut();
        }

        /** Cuts the quotes at hand, as an operand. */
        private void cutQuoted() {
            at++;
            beginLetters(QUOTED_OPERAND);
            cut();
        }

        private void cut() {
            int most = 4 * store.size(text) + 8;
            for (int turn = 0; turn < most && kind != DONE && fault == 0; turn++) {
                if (kind == BETWEEN) {
                    between();
                } else {
                    inside();
                }
            }
        }

        private void beginLetters(int what) {
            kind = what;
            parts = 0;
            row = at;
        }

        private void passBlanks() {
            int size = store.size(text);
            while (at < size) {
                int c = store.letter(text, at);
                if (Letters.isWhite(c) || c == ';') {
                    at++;
                } else if (letters.isGap(text, at)) {
                    at = letters.pairEnd(text, at);
                } else if (c == '#') {
                    passComment(size);
                } else {
                    return;
                }
            }
        }

        private void passComment(int size) {
            while (at < size && store.letter(text, at) != LINE) {
                at = store.letter(text, at) == '\\' ? letters.pairEnd(text, at) : at + 1;
            }
        }

        /** Whether a command or word in a script ends here. */
        private boolean endsWord(int i) {
            int c = store.letter(text, i);
            return c < 0 || Letters.isWhite(c) || c == ';' || c == ']' && within > 0 || letters.isGap(text, i);
        }

        private void between() {
            while (Letters.isSpace(store.letter(text, at)) || letters.isGap(text, at)) {
                at = letters.isGap(text, at) ? letters.pairEnd(text, at) : at + 1;
            }
            int c = store.letter(text, at);
            if (!endsWord(at)) {
                beginWord();
            } else if (c < 0 && within > 0) {
                fault = MISSING_BRACKET;
            } else {
                core.push(T_RUN);
                endCommand(c);
            }
        }

        private void endCommand(int c) {
            if (c == ']') {
                closeBracket();
                return;
            }
            at += c < 0 ? 0 : 1;
            if (within > 0) {
                nextInBracket();
            } else {
                kind = DONE;
            }
        }

        private void beginWord() {
            boolean starred = store.letter(text, at) == '{' && store.letter(text, at + 1) == '*'
                && store.letter(text, at + 2) == '}';
            spread = starred && !endsWord(at + 3);
            if (spread) {
                at += 3;
            }
            int c = store.letter(text, at);
            if (c == '{') {
                cutBraced();
                endQuoting(BEHIND_BRACE);
            } else if (c == '"') {
                at++;
                beginLetters(QUOTED);
            } else {
                beginLetters(BARE);
            }
        }

        /** Cuts the { } at hand. */
        private void cutBraced() {
            int size = store.size(text);
            int deep = 1;
            int i = at + 1;
            while (i < size && deep > 0) {
                int c = store.letter(text, i);
                if (c == '\\') {
                    i = letters.pairEnd(text, i);
                } else {
                    deep += c == '{' ? 1 : c == '}' ? -1 : 0;
                    i++;
                }
            }
            if (deep > 0) {
                fault = MISSING_BRACE;
                return;
            }
            pushRange(T_RAW, at + 1, i - 1);
            at = i;
        }

        private void pushRange(int token, int from, int to) {
            core.push(token);
            core.push(from);
            core.push(to);
        }

        private void endQuoting(int behind) {
            if (fault == 0 && !endsWord(at)) {
                fault = behind;
            }
            endWord();
        }

        private void endWord() {
            if (spread) {
                core.push(T_SPREAD);
            }
            spread = false;
            kind = BETWEEN;
        }

        private void inside() {
            int c = store.letter(text, at);
            if (isClosing(c)) {
                closeLetters();
            } else if (c < 0) {
                fault = kind == INDEX ? MISSING_PARENTHESIS : MISSING_QUOTE;
            } else if (c == '$') {
                dollar();
            } else if (c == '[') {
                bracket();
            } else {
                at = c == '\\' ? letters.pairEnd(text, at) : at + 1;
            }
        }

        private boolean isClosing(int c) {
            switch (kind) {
                case BARE: return endsWord(at);
                case INDEX: return c == ')';
                case WHOLE: return c < 0;
                default: return c == '"';
            }
        }

        private void closeLetters() {
            endRow();
            if (parts == 0) {
                pushRange(T_ROW, at, at);
            } else if (parts > 1) {
                core.push(T_JOIN);
                core.push(parts);
            }
            int closed = kind;
            at += closed == BARE || closed == WHOLE ? 0 : 1;
            if (closed == BARE) {
                endWord();
            } else if (closed == QUOTED) {
                endQuoting(BEHIND_QUOTE);
            } else if (closed == INDEX) {
                int name = 4 * (within - 1);
                pushRange(T_ELEMENT, around[name + 2], around[name + 3]);
                leave();
            } else {
                kind = DONE;
            }
        }

        /** Ends a row of letters that are no $ and no [ ]. */
        private void endRow() {
            if (row < at) {
                pushRange(T_ROW, row, at);
                parts++;
            }
        }

        private void dollar() {
            boolean braced = store.letter(text, at + 1) == '{';
            int from = braced ? at + 2 : at + 1;
            int end = braced ? closingBrace(from) : nameEnd(from);
            if (fault != 0) {
                return;
            }
            if (!braced && end == from) {
                fault = kind == SINGLE ? BAD_EXPRESSION : 0;
                at++;
                return;
            }
            endRow();
            if (!braced && store.letter(text, end) == '(') {
                if (enter(from, end)) {
                    at = end + 1;
                    beginLetters(INDEX);
                }
                return;
            }
            pushRange(T_VALUE, from, end);
            at = braced ? end + 1 : end;
            endPart();
        }

        private int closingBrace(int from) {
            int size = store.size(text);
            int i = from;
            while (i < size && store.letter(text, i) != '}') {
                i++;
            }
            if (i >= size) {
                fault = MISSING_BRACE;
            }
            return i;
        }

        /** Where the longest NAME from a place on ends. */
        private int nameEnd(int from) {
            int size = store.size(text);
            int i = from;
            while (i < size) {
                int c = store.letter(text, i);
                boolean colons = c == ':' && (store.letter(text, i + 1) == ':' || i > from && store.letter(text, i - 1) == ':');
                if (!colons && !Letters.isNameLetter(c)) {
                    return i;
                }
                i++;
            }
            return i;
        }

        private void bracket() {
            endRow();
            if (enter(0, 0)) {
                core.push(T_CLEAR);
                at++;
                nextInBracket();
            }
        }

        private void nextInBracket() {
            passBlanks();
            int c = store.letter(text, at);
            if (c < 0) {
                fault = MISSING_BRACKET;
            } else if (c == ']') {
                closeBracket();
            } else {
                core.push(T_BEGIN);
                kind = BETWEEN;
                spread = false;
            }
        }

        private void closeBracket() {
            at++;
            core.push(T_PUT);
            leave();
        }

        /** Goes into a [ or a ( of a name, whose name stands at from .. to. */
        private boolean enter(int from, int to) {
            if (within >= NESTED) {
                fault = TOO_DEEP;
                return false;
            }
            int place = 4 * within;
            around[place] = spread ? kind | SPREAD : kind;
            around[place + 1] = parts;
            around[place + 2] = from;
            around[place + 3] = to;
            within++;
            return true;
        }

        /** Goes back to what was around, of which a part has ended. */
        private void leave() {
            within = Math.max(0, within - 1);
            int place = 4 * within;
            spread = (around[place] & SPREAD) != 0;
            kind = around[place] & (SPREAD - 1);
            parts = around[place + 1];
            endPart();
        }

        private void endPart() {
            if (kind == SINGLE) {
                kind = DONE;
                return;
            }
            core.push(T_TICK);
            parts++;
            row = at;
        }
    }

    /**
     * Expressions: cuts them into tokens, each operator behind its operands, and works the operators. The operators
     * that wait for their right side stand in a row of their own.
     */
    private static final class Formula {
        private final Cutter cutter;
        private final Core core;
        private final Store store;
        private final Letters letters;
        private final Lists lists;
        // A pair for each that waits: at most 50 of those that nest, and a dozen that bind more and more within each.
        private final int[] waits = new int[2048];
        private int waiting;
        private int nested;
        private int fault;
        private boolean wantsOperand;

        private Formula(Cutter cutter, Lists lists) {
            this.cutter = cutter;
            this.core = cutter.core;
            this.store = cutter.store;
            this.letters = cutter.letters;
            this.lists = lists;
        }

        /** Cuts an expression, whose frame is the one at hand: the fault, or 0. */
        private int cut(int expression) {
            cutter.begin(expression, 0);
            waiting = 0;
            nested = 0;
            fault = 0;
            wantsOperand = true;
            int size = store.size(expression);
            for (int turn = 0; turn <= size && fault == 0 && passWhite(); turn++) {
                if (wantsOperand) {
                    operand();
                } else {
                    operator();
                }
            }
            if (fault == 0) {
                settleAll();
                fault = wantsOperand || waiting > 0 ? BAD_EXPRESSION : 0;
            }
            core.push(T_FINISH);
            return fault;
        }

        /** Goes to what isn't WHITE; false at the end. */
        private boolean passWhite() {
            int size = store.size(cutter.text);
            while (cutter.at < size) {
                if (letters.isGap(cutter.text, cutter.at)) {
                    cutter.at = letters.pairEnd(cutter.text, cutter.at);
                } else if (Letters.isWhite(store.letter(cutter.text, cutter.at))) {
                    cutter.at++;
                } else {
                    return true;
                }
            }
            return false;
        }

        private void operand() {
            int c = store.letter(cutter.text, cutter.at);
            switch (c) {
                case '(': nest(PARENTHESIS, 0); break;
                case '-': nest(MINUS_AHEAD, 0); break;
                case '+': nest(PLUS_AHEAD, 0); break;
                case '~': nest(TILDE_AHEAD, 0); break;
                case '!': nest(NOT_AHEAD, 0); break;
                case '$', '[': cutter.cutSingle(); endOperand(); return;
                case '"': cutter.cutQuoted(); endOperand(); return;
                case '{': cutter.cutBraced(); endOperand(); return;
                default: word(Letters.isDigit(c)); return;
            }
            cutter.at++;
        }

        /** An INTEGER, a truth or a function's name: a row of NAME LETTERS. */
        private void word(boolean number) {
            int from = cutter.at;
            int to = from;
            while (Letters.isNameLetter(store.letter(cutter.text, to))) {
                to++;
            }
            cutter.at = to;
            int function = number ? 0 : isAt(from, to, "abs") ? ABS : isAt(from, to, "min") ? MIN : isAt(from, to, "max") ? MAX : 0;
            if (function != 0) {
                function(function);
            } else if (number ? letters.isInteger(cutter.text, from, to) : isTruth(from, to)) {
                cutter.pushRange(T_RAW, from, to);
                endOperand();
            } else {
                fault = BAD_EXPRESSION;
            }
        }

        private boolean isTruth(int from, int to) {
            return isAt(from, to, "true") || isAt(from, to, "false") || isAt(from, to, "yes") || isAt(from, to, "no")
                || isAt(from, to, "on") || isAt(from, to, "off");
        }

        private boolean isAt(int from, int to, String word) {
            if (to - from != word.length()) {
                return false;
            }
            for (int i = 0; i < word.length(); i++) {
                if (store.letter(cutter.text, from + i) != word.charAt(i)) {
                    return false;
                }
            }
            return true;
        }

        private void function(int function) {
            if (passWhite() && store.letter(cutter.text, cutter.at) == '(') {
                nest(function, 1);
                cutter.at++;
            } else {
                fault = BAD_EXPRESSION;
            }
        }

        private void endOperand() {
            if (cutter.fault != 0) {
                fault = BAD_EXPRESSION;
                return;
            }
            core.push(T_OPERAND);
            endValue();
        }

        /** A value is there: the operators just ahead of it are next. */
        private void endValue() {
            wantsOperand = false;
            while (waiting > 0 && last() <= NOT_AHEAD) {
                core.push(T_UNARY);
                core.push(last());
                waiting--;
                nested--;
            }
        }

        private int last() {
            return waiting > 0 ? waits[2 * waiting - 2] : 0;
        }

        private int lastPlace() {
            return waiting > 0 ? waits[2 * waiting - 1] : 0;
        }

        private void await(int what, int place) {
            if (2 * waiting + 1 >= waits.length) {
                fault = TOO_DEEP;
                return;
            }
            waits[2 * waiting] = what;
            waits[2 * waiting + 1] = place;
            waiting++;
        }

        private void nest(int what, int place) {
            if (nested >= NESTED) {
                fault = TOO_DEEP;
                return;
            }
            nested++;
            await(what, place);
        }

        private void operator() {
            int c = store.letter(cutter.text, cutter.at);
            switch (c) {
                case ')': close(); break;
                case ',': comma(); break;
                case '?': question(); break;
                case ':': colon(); break;
                default: binary(); return;
            }
            cutter.at++;
        }

        private void close() {
            settleAll();
            int what = last();
            if (what != PARENTHESIS && !isFunction(what)) {
                fault = BAD_EXPRESSION;
                return;
            }
            if (isFunction(what)) {
                cutter.pushRange(T_FUNCTION, what, lastPlace());
            }
            waiting--;
            nested--;
            endValue();
        }

        private static boolean isFunction(int what) {
            return what == ABS || what == MIN || what == MAX;
        }

        private void comma() {
            settleAll();
            if (last() != MIN && last() != MAX) {
                fault = BAD_EXPRESSION;
                return;
            }
            waits[2 * waiting - 1]++;
            wantsOperand = true;
        }

        private void question() {
            settle(0);
            nest(QUESTION, pushJump(T_CHOOSE));
            wantsOperand = true;
        }

        private void colon() {
            settleAll();
            if (last() != QUESTION) {
                fault = BAD_EXPRESSION;
                return;
            }
            int choice = lastPlace();
            waiting--;
            await(COLON, pushJump(T_JUMP));
            endJump(choice);
            wantsOperand = true;
        }

        /** Pushes a token that goes elsewhere: the place at which it is told where, from the frame on. */
        private int pushJump(int token) {
            core.push(token);
            core.push(0);
            return core.top - 1 - core.frame;
        }

        private void endJump(int place) {
            core.put(core.frame + place, core.top - core.frame);
        }

        private void binary() {
            int from = cutter.at;
            int what = binaryAt(from);
            if (what == 0) {
                fault = BAD_EXPRESSION;
                return;
            }
            settle(what);
            if (what == BOTH || what == EITHER) {
                await(what, pushJump(what == BOTH ? T_AND : T_OR));
            } else if (what == POWER) {
                nest(what, 0);
            } else {
                await(what, 0);
            }
            wantsOperand = true;
        }

        /** The operator between two operands that stands here, which is passed by; 0 if there is none. */
        private int binaryAt(int from) {
            int c = store.letter(cutter.text, from);
            int second = store.letter(cutter.text, from + 1);
            boolean twice = c == second;
            boolean equals = second == '=';
            if (Letters.isNameLetter(c)) {
                return wordOperator(from);
            }
            boolean two = twice && (c == '*' || c == '<' || c == '>' || c == '=' || c == '&' || c == '|')
                || equals && (c == '<' || c == '>' || c == '!');
            cutter.at = two ? from + 2 : from + 1;
            switch (c) {
                case '*': return two ? POWER : TIMES;
                case '/': return DIVIDED;
                case '%': return MODULO;
                case '+': return PLUS;
                case '-': return MINUS;
                case '<': return twice ? LEFT_SHIFT : two ? AT_MOST : LESS;
                case '>': return twice ? RIGHT_SHIFT : two ? AT_LEAST : GREATER;
                case '=': return two ? EQUAL : 0;
                case '!': return two ? UNEQUAL : 0;
                case '&': return two ? BOTH : AND;
                case '|': return two ? EITHER : OR;
                case '^': return XOR;
                default: return 0;
            }
        }

        private int wordOperator(int from) {
            int to = from;
            while (Letters.isNameLetter(store.letter(cutter.text, to))) {
                to++;
            }
            cutter.at = to;
            if (isAt(from, to, "eq")) {
                return SAME;
            }
            if (isAt(from, to, "ne")) {
                return OTHER;
            }
            return isAt(from, to, "in") ? IN : isAt(from, to, "ni") ? NOT_IN : 0;
        }

        /** The operators that bind more than the next one, or as much from the left, are worked ahead of it. */
        private void settle(int next) {
            while (last() >= EITHER && (last() >> 4 > next >> 4 || last() >> 4 == next >> 4 && next != POWER)) {
                settleLast();
            }
        }

        /** All operators are worked, back to what is open. */
        private void settleAll() {
            while (last() >= EITHER || last() == COLON) {
                settleLast();
            }
        }

        private void settleLast() {
            int what = last();
            int place = lastPlace();
            waiting--;
            if (what == COLON) {
                endJump(place);
            } else if (what == BOTH || what == EITHER) {
                core.push(T_TRUTH);
                endJump(place);
            } else {
                core.push(T_BINARY);
                core.push(what);
            }
            if (what == COLON || what == POWER) {
                nested--;
            }
        }

        /** What an INTEGER on the stack is, in letters.number; false with the ERROR. */
        private boolean takeNumber(int text) {
            return letters.isInteger(text) || core.fail("no number: ", text);
        }

        private boolean pushNumber(long value) {
            core.push(core.number(value));
            return true;
        }

        private boolean pushTruth(boolean truth) {
            return pushNumber(truth ? 1 : 0);
        }

        /** 1 or 0 for the truth of a text; -1 with the ERROR. */
        private int takeTruth(int text) {
            int truth = letters.truth(text);
            if (truth < 0) {
                core.fail("no truth: ", text);
            }
            return truth;
        }

        private boolean workUnary(int what) {
            if (!core.spend(1)) {
                return false;
            }
            int text = core.pop();
            if (what == NOT_AHEAD) {
                int truth = takeTruth(text);
                return truth >= 0 && pushTruth(truth == 0);
            }
            if (!takeNumber(text)) {
                return false;
            }
            long value = letters.number;
            if (what == MINUS_AHEAD && value == Long.MIN_VALUE) {
                return core.fail("too great");
            }
            return pushNumber(what == MINUS_AHEAD ? -value : what == TILDE_AHEAD ? ~value : value);
        }

        private boolean workFunction(int what, int many) {
            if (!core.spend(1)) {
                return false;
            }
            long best = 0;
            int bottom = core.top - many;
            for (int i = 0; i < many; i++) {
                if (!takeNumber(core.at(bottom + i))) {
                    return false;
                }
                long value = letters.number;
                best = i == 0 ? value : what == MIN ? Math.min(best, value) : Math.max(best, value);
            }
            core.top = bottom;
            if (what == ABS && best == Long.MIN_VALUE) {
                return core.fail("too great");
            }
            return pushNumber(what == ABS ? Math.abs(best) : best);
        }

        private boolean workBinary(int what) {
            if (!core.spend(1)) {
                return false;
            }
            int right = core.pop();
            int left = core.pop();
            switch (what) {
                case SAME: return pushTruth(store.same(left, right));
                case OTHER: return pushTruth(!store.same(left, right));
                case IN, NOT_IN: return workIn(left, right, what == IN);
                case EQUAL, UNEQUAL, LESS, GREATER, AT_MOST, AT_LEAST: return workOrder(what, left, right);
                default: break;
            }
            if (!takeNumber(left)) {
                return false;
            }
            long a = letters.number;
            return takeNumber(right) && workNumbers(what, a, letters.number);
        }

        private boolean workIn(int left, int right, boolean wanted) {
            int bottom = core.top;
            int many = lists.pushAll(right);
            boolean found = false;
            for (int i = 0; i < many; i++) {
                found = found || store.same(core.at(bottom + i), left);
            }
            core.top = bottom;
            return many >= 0 && pushTruth(found == wanted);
        }

        private boolean workOrder(int what, int left, int right) {
            int order = letters.compare(left, right);
            if (letters.isInteger(left)) {
                long a = letters.number;
                if (letters.isInteger(right)) {
                    order = Long.compare(a, letters.number);
                }
            }
            switch (what) {
                case EQUAL: return pushTruth(order == 0);
                case UNEQUAL: return pushTruth(order != 0);
                case LESS: return pushTruth(order < 0);
                case GREATER: return pushTruth(order > 0);
                case AT_MOST: return pushTruth(order <= 0);
                default: return pushTruth(order >= 0);
            }
        }

        private boolean workNumbers(int what, long a, long b) {
            switch (what) {
                case PLUS: return isSumTooGreat(a, b) ? core.fail("too great") : pushNumber(a + b);
                case MINUS: return workMinus(a, b);
                case TIMES: return isProductTooGreat(a, b) ? core.fail("too great") : pushNumber(a * b);
                case DIVIDED, MODULO: return workDivided(a, b, what == MODULO);
                case POWER: return b < 0 ? core.fail("bad second") : workPower(a, b);
                case LEFT_SHIFT: return b < 0 ? core.fail("bad second") : workShift(a, b);
                case RIGHT_SHIFT: return b < 0 ? core.fail("bad second") : pushNumber(a >> Math.min(b, 63));
                case AND: return pushNumber(a & b);
                case XOR: return pushNumber(a ^ b);
                default: return pushNumber(a | b);
            }
        }

        private static boolean isSumTooGreat(long a, long b) {
            long all = a + b;
            return ((a ^ all) & (b ^ all)) < 0;
        }

        private boolean workMinus(long a, long b) {
            long rest = a - b;
            return ((a ^ b) & (a ^ rest)) < 0 ? core.fail("too great") : pushNumber(rest);
        }

        private static boolean isProductTooGreat(long a, long b) {
            if (a == 0 || b == 0) {
                return false;
            }
            if (a == Long.MIN_VALUE && b == -1 || b == Long.MIN_VALUE && a == -1) {
                return true;
            }
            return a * b / b != a;
        }

        private boolean workDivided(long a, long b, boolean rest) {
            if (b == 0) {
                return core.fail("divided by 0");
            }
            if (b == -1) {
                return !rest && a == Long.MIN_VALUE ? core.fail("too great") : pushNumber(rest ? 0 : -a);
            }
            return pushNumber(rest ? Math.floorMod(a, b) : Math.floorDiv(a, b));
        }

        private boolean workPower(long a, long b) {
            if (a == 0 || a == 1 || a == -1) {
                return pushNumber(b == 0 ? 1 : a == -1 && b % 2 == 0 ? 1 : a);
            }
            long value = 1;
            // What isn't 0, 1 or -1 is too great by its 64th power.
            for (long i = 0; i < b && i < 64; i++) {
                if (isProductTooGreat(value, a)) {
                    return core.fail("too great");
                }
                value *= a;
            }
            return pushNumber(value);
        }

        private boolean workShift(long a, long b) {
            if (a != 0 && (b > 62 && !(b == 63 && a == -1) || b <= 62 && a << b >> b != a)) {
                return core.fail("too great");
            }
            return pushNumber(a == 0 ? 0 : a << b);
        }
    }

    /** Rooms, levels, commands and variables with their LINKS and WATCHES. */
    private static final class Names {
        // What is wrong with what a name leads to.
        private static final int NO_ROOM = 1;
        private static final int NO_ARRAY = 2;
        // What has become of the WATCHES of an act.
        private static final int FAILED = -1;
        private static final int NOTHING_DONE = 0;
        private static final int ALL_DONE = 1;

        private final Core core;
        private final Store store;
        private final Letters letters;
        private final Lists lists;
        private Runner runner;
        private int root;
        private int ground;
        private int procedures;
        private int coroutines;
        private int rooms;
        private int base;
        private int index;
        private int pathEnd;
        private int tail;
        private int found;
        private int key;
        private int trouble;
        private int unsets;
        private int watching;

        private Names(Core core, Lists lists) {
            this.core = core;
            this.store = core.store;
            this.letters = lists.letters;
            this.lists = lists;
        }

        /** Makes the house as new. */
        private void renew() {
            store.clear();
            procedures = 0;
            coroutines = 0;
            rooms = 0;
            unsets = 0;
            root = store.newRecord(A_ROOM);
            store.set(root, NAME, EMPTY);
            ground = store.newRecord(A_LEVEL);
            store.set(ground, ROOM, root);
            // The lowest frame leads to all that a house has.
            core.put(LEVEL, ground);
            for (int i = 0; i < ALL_TOLD.length; i++) {
                if (ALL_TOLD[i].family.isEmpty()) {
                    store.open();
                    store.putWord(ALL_TOLD[i].text);
                    addCommand(root, store.close(), ALL_TOLD[i].ordinal());
                }
            }
        }

        // ---- rooms and paths

        private int roomAtHand() {
            return store.get(core.level(), ROOM);
        }

        private boolean isAbsolute(int name) {
            return isSeparator(name, 0);
        }

        private boolean isSeparator(int name, int i) {
            return store.letter(name, i) == ':' && store.letter(name, i + 1) == ':';
        }

        /** Finds where the PATH ahead of a name's TAIL ends, -1 without one, and where the TAIL begins. */
        private void cutPath(int name) {
            pathEnd = -1;
            tail = 0;
            for (int i = store.size(name) - 2; i >= 0 && pathEnd < 0; i--) {
                if (isSeparator(name, i)) {
                    tail = i + 2;
                    pathEnd = i;
                }
            }
            while (pathEnd > 0 && store.letter(name, pathEnd - 1) == ':') {
                pathEnd--;
            }
        }

        /** The room that letters 0 .. end of a text lead to from a room; 0 if there is none and none is to be made. */
        private int roomBy(int path, int end, int start, boolean make) {
            int room = isAbsolute(path) ? root : start;
            int i = 0;
            while (i < end && room != 0) {
                int from = i;
                while (i < end && !isSeparator(path, i)) {
                    i++;
                }
                if (from < i) {
                    room = child(room, path, from, i, make);
                }
                while (isSeparator(path, i) || i > 0 && i < end && isSeparator(path, i - 1)) {
                    i++;
                }
            }
            return room;
        }

        private int child(int parent, int path, int from, int to, boolean make) {
            int room = store.get(parent, CHILDREN);
            while (room != 0 && !store.samePart(store.get(room, NAME), path, from, to)) {
                room = store.get(room, NEXT_ONE);
            }
            if (room == 0 && make) {
                int name = store.part(path, from, to);
                room = store.newRecord(A_ROOM);
                store.set(room, NAME, name);
                store.set(room, ROOM, parent);
                store.set(room, NEXT_ONE, store.get(parent, CHILDREN));
                store.set(parent, CHILDREN, room);
                rooms++;
            }
            return room;
        }

        private int roomByPath(int path, int start, boolean make) {
            return roomBy(path, store.size(path), start, make);
        }

        private boolean isWithin(int room, int outer) {
            int r = room;
            while (r != 0 && r != outer) {
                r = store.get(r, ROOM);
            }
            return r != 0;
        }

        /** The FULL name of a room, or of what stands in it with a TAIL. */
        private int fullName(int room, int tail) {
            int bottom = core.top;
            for (int r = room; r != 0 && r != root; r = store.get(r, ROOM)) {
                core.push(store.get(r, NAME));
            }
            store.open();
            for (int i = core.top - 1; i >= bottom; i--) {
                store.putWord("::");
                store.putText(core.at(i));
            }
            if (tail != 0 || core.top == bottom) {
                store.putWord("::");
                store.putText(tail);
            }
            core.top = bottom;
            return core.close();
        }

        /** Whether a room may go: no level has it or a room in it, and none that runs has a name in it. */
        private boolean isInUse(int room) {
            boolean inUse = room == root;
            for (int level = store.get(ground, NEXT_ONE); level != 0; level = store.get(level, NEXT_ONE)) {
                inUse = inUse || isWithin(store.get(level, ROOM), room);
            }
            for (int runs = runner.coroutine; runs != 0; runs = store.get(runs, OUTER)) {
                inUse = inUse || isWithin(store.get(runs, ROOM), room);
            }
            return inUse;
        }

        /** Deletes a room, those in it first. */
        private void deleteRoom(int room) {
            int most = rooms;
            int r = room;
            for (int i = 0; i <= 2 * most && r != 0; i++) {
                int inner = store.get(r, CHILDREN);
                if (inner != 0) {
                    r = inner;
                } else {
                    int parent = store.get(r, ROOM);
                    empty(r);
                    unlink(parent, CHILDREN, r);
                    rooms--;
                    r = r == room ? 0 : parent;
                }
            }
        }

        private void empty(int room) {
            while (store.get(room, COMMANDS) != 0) {
                drop(store.get(room, COMMANDS));
            }
            for (int v = store.get(room, VARIABLES); v != 0; v = store.get(v, NEXT_ONE)) {
                if (store.get(v, STATE) != IS_LINK) {
                    clearVariable(v, -1);
                }
                store.set(v, STATE, NOT_THERE);
            }
            store.set(room, VARIABLES, 0);
        }

        /** Takes a record out of the chain that a cell of another one begins; its own next one stays as it is. */
        private void unlink(int holder, int cell, int record) {
            int one = store.get(holder, cell);
            if (one == record) {
                store.set(holder, cell, store.get(record, NEXT_ONE));
                return;
            }
            while (one != 0 && store.get(one, NEXT_ONE) != record) {
                one = store.get(one, NEXT_ONE);
            }
            if (one != 0) {
                store.set(one, NEXT_ONE, store.get(record, NEXT_ONE));
            }
        }

        /** Puts a record behind all of a chain. */
        private void link(int holder, int cell, int record) {
            store.set(record, NEXT_ONE, 0);
            int one = store.get(holder, cell);
            if (one == 0) {
                store.set(holder, cell, record);
                return;
            }
            while (store.get(one, NEXT_ONE) != 0) {
                one = store.get(one, NEXT_ONE);
            }
            store.set(one, NEXT_ONE, record);
        }

        // ---- commands

        private int addCommand(int room, int name, int type) {
            int command = store.newRecord(A_COMMAND);
            store.set(command, NAME, name);
            store.set(command, ROOM, room);
            link(room, COMMANDS, command);
            setType(command, type);
            return command;
        }

        private void setType(int command, int type) {
            store.set(command, TYPE, type);
            tally(type, 1);
        }

        private void tally(int type, int step) {
            if (type == PROCEDURE) {
                procedures += step;
            } else if (type == COROUTINE) {
                coroutines += step;
            }
        }

        /** What a command was is no more; of a coroutine its levels are not there any more. */
        private void forget(int command) {
            tally(store.get(command, TYPE), -1);
            if (store.get(command, TYPE) != COROUTINE) {
                return;
            }
            store.set(command, SAVED, 0);
            store.set(command, IS_RUNNING, 0);
            int next = 0;
            for (int level = store.get(ground, NEXT_ONE); level != 0; level = next) {
                next = store.get(level, NEXT_ONE);
                if (store.get(level, OWNER) == command) {
                    endLevel(level);
                }
            }
        }

        private void drop(int command) {
            forget(command);
            unlink(store.get(command, ROOM), COMMANDS, command);
        }

        private int commandIn(int room, int name, int from) {
            int size = store.size(name);
            int command = store.get(room, COMMANDS);
            while (command != 0 && !store.samePart(store.get(command, NAME), name, from, size)) {
                command = store.get(command, NEXT_ONE);
            }
            return command;
        }

        /** The command that a name means in the room at hand; 0 if there is none. */
        private int command(int name) {
            cutPath(name);
            int room = roomAtHand();
            boolean path = pathEnd >= 0;
            int near = path ? roomBy(name, pathEnd, room, false) : room;
            int command = near == 0 ? 0 : commandIn(near, name, tail);
            if (command == 0 && !isAbsolute(name)) {
                int far = path ? roomBy(name, pathEnd, root, false) : root;
                command = far == 0 ? 0 : commandIn(far, name, tail);
            }
            return command;
        }

        /** The room in which a command of this name would be made; 0 with the ERROR. */
        private int homeOf(int name) {
            cutPath(name);
            int room = pathEnd < 0 ? roomAtHand() : roomBy(name, pathEnd, roomAtHand(), false);
            if (room == 0) {
                failRoom(name);
            }
            return room;
        }

        private int tailOf(int name) {
            cutPath(name);
            return store.part(name, tail, store.size(name));
        }

        private boolean failRoom(int name) {
            cutPath(name);
            return core.fail("no room: ", store.part(name, 0, pathEnd));
        }

        // ---- levels

        /** A level above the one at hand; all that are there stand in a chain behind the lowest. */
        private int newLevel(int room, int own) {
            int below = core.level();
            int level = store.newRecord(A_LEVEL);
            int next = store.get(ground, NEXT_ONE);
            store.set(level, ROOM, room);
            store.set(level, OWN, own);
            store.set(level, NUMBER, store.get(below, NUMBER) + 1);
            store.set(level, BELOW, below);
            store.set(level, OWNER, runner.coroutine);
            store.set(level, NEXT_ONE, next);
            store.set(level, LAST_ONE, ground);
            store.set(next, LAST_ONE, level);
            store.set(ground, NEXT_ONE, level);
            return level;
        }

        private void endLevel(int level) {
            int next = store.get(level, NEXT_ONE);
            int last = store.get(level, LAST_ONE);
            store.set(last, NEXT_ONE, next);
            store.set(next, LAST_ONE, last);
        }

        private int levelOfNumber(long number) {
            int level = core.level();
            while (level != 0 && store.get(level, NUMBER) != number) {
                level = store.get(level, BELOW);
            }
            return level;
        }

        /** Whether a text tells a level: digits, or # and digits. */
        private boolean isLevel(int text) {
            int from = store.letter(text, 0) == '#' ? 1 : 0;
            int size = store.size(text);
            boolean digits = size > from;
            for (int i = from; i < size; i++) {
                digits = digits && Letters.isDigit(store.letter(text, i));
            }
            return digits;
        }

        /** The level that a text tells; 0 with the ERROR. */
        private int levelBy(int text) {
            int level = 0;
            int from = store.letter(text, 0) == '#' ? 1 : 0;
            if (isLevel(text) && letters.takeDigits(text, from, store.size(text), 10, false)) {
                long number = letters.number;
                level = levelOfNumber(from == 1 ? number : store.get(core.level(), NUMBER) - number);
            }
            if (level == 0) {
                core.fail("no level: ", text);
            }
            return level;
        }

        // ---- what a name leads to

        /** Cuts a name into what is ahead of its INDEX and that, 0 without one. */
        private void cutName(int name) {
            base = name;
            index = 0;
            int size = store.size(name);
            if (store.letter(name, size - 1) != ')') {
                return;
            }
            int i = 0;
            while (i < size && store.letter(name, i) != '(') {
                i++;
            }
            if (i < size) {
                base = store.part(name, 0, i);
                index = store.part(name, i + 1, size - 1);
            }
        }

        /**
         * Finds what a name means at a level: the variable, 0 if there has never been one, and the INDEX of the ELEMENT.
         * False if there is trouble.
         */
        private boolean find(int level, int base, int index, boolean make) {
            found = 0;
            key = index;
            trouble = 0;
            cutPath(base);
            int own = store.get(level, OWN) != 0 ? level : store.get(level, ROOM);
            int holder = pathEnd < 0 ? own : roomBy(base, pathEnd, store.get(level, ROOM), false);
            if (holder == 0) {
                trouble = NO_ROOM;
                return false;
            }
            follow(variableIn(holder, base, tail, make));
            return trouble == 0;
        }

        private void follow(int variable) {
            int v = variable;
            while (v != 0 && store.get(v, STATE) == IS_LINK && trouble == 0) {
                int linked = store.get(v, VALUE_OF);
                if (linked != 0 && key != 0) {
                    trouble = NO_ARRAY;
                } else if (linked != 0) {
                    key = linked;
                }
                v = store.get(v, TARGET);
            }
            found = v;
        }

        private int variableIn(int holder, int name, int from, boolean make) {
            int size = store.size(name);
            int v = store.get(holder, VARIABLES);
            while (v != 0 && !store.samePart(store.get(v, NAME), name, from, size)) {
                v = store.get(v, NEXT_ONE);
            }
            if (v == 0 && make) {
                int text = store.part(name, from, size);
                v = store.newRecord(A_VARIABLE);
                store.set(v, NAME, text);
                store.set(v, OWN, store.get(holder, OWN));
                store.set(v, NEXT_ONE, store.get(holder, VARIABLES));
                store.set(holder, VARIABLES, v);
            }
            return v;
        }

        private boolean failFind(int base) {
            return trouble == NO_ROOM ? failRoom(base) : core.fail("no array: ", base);
        }

        private boolean failTold(String message, int base, int index) {
            if (index == 0) {
                return core.fail(message, base);
            }
            store.open();
            store.putText(base);
            store.put('(');
            store.putText(index);
            store.put(')');
            return core.fail(message, core.close());
        }

        /** The ELEMENT of a variable, also one that isn't there but has WATCHES; 0 if there is none. */
        private int elementOf(int array, int index) {
            int e = store.get(array, FIRST);
            while (e != 0 && !store.same(store.get(e, NAME), index)) {
                e = store.get(e, NEXT_ONE);
            }
            return e;
        }

        private int newElement(int array, int index) {
            int e = store.newRecord(A_VARIABLE);
            store.set(e, NAME, index);
            addElement(array, e);
            return e;
        }

        private void addElement(int array, int e) {
            int last = store.get(array, LAST);
            store.set(e, NEXT_ONE, 0);
            if (last == 0) {
                store.set(array, FIRST, e);
            } else {
                store.set(last, NEXT_ONE, e);
            }
            store.set(array, LAST, e);
        }

        private void removeElement(int array, int e) {
            int before = 0;
            int one = store.get(array, FIRST);
            while (one != 0 && one != e) {
                before = one;
                one = store.get(one, NEXT_ONE);
            }
            if (one == 0) {
                return;
            }
            int next = store.get(e, NEXT_ONE);
            if (before == 0) {
                store.set(array, FIRST, next);
            } else {
                store.set(before, NEXT_ONE, next);
            }
            if (next == 0) {
                store.set(array, LAST, before);
            }
        }

        /** An ELEMENT of which nothing is known any more goes. */
        private void tidyElement(int array, int e) {
            if (store.get(e, STATE) == NOT_THERE && store.get(e, WATCHES) == 0 && store.get(e, BUSY) == 0) {
                removeElement(array, e);
            }
        }

        // ---- acts

        private boolean isFoundThere() {
            int state = store.get(found, STATE);
            if (trouble != 0 || key == 0) {
                return trouble == 0 && state != NOT_THERE;
            }
            return state == IS_ARRAY && store.get(elementOf(found, key), STATE) != NOT_THERE;
        }

        /** Whether a name has a VALUE or is an ARRAY; trouble tells if its room isn't there. */
        private boolean isThere(int name) {
            cutName(name);
            find(core.level(), base, index, false);
            return isFoundThere();
        }

        /** The VALUE of what was found; 0 if it has none. */
        private int foundValue() {
            int v = key == 0 ? found : store.get(found, STATE) == IS_ARRAY ? elementOf(found, key) : 0;
            return trouble == 0 && store.get(v, STATE) == HAS_VALUE ? store.get(v, VALUE_OF) : 0;
        }

        /** Whether a name is an ARRAY, which found is then; trouble tells if its room isn't there. */
        private boolean isArray(int name) {
            cutName(name);
            find(core.level(), base, index, false);
            return trouble == 0 && key == 0 && store.get(found, STATE) == IS_ARRAY;
        }

        private int read(int name) {
            cutName(name);
            return read(base, index);
        }

        /** Reads a name, its WATCHES ahead of it: its VALUE; 0 with the ERROR. */
        private int read(int base, int index) {
            if (!find(core.level(), base, index, false)) {
                failFind(base);
                return 0;
            }
            int own = key == 0 ? found : elementOf(found, key);
            int done = watch(READ, base, index, key == 0 ? 0 : found, own, store.get(own, WATCHES));
            if (done == FAILED) {
                return 0;
            }
            if (done == ALL_DONE && !find(core.level(), base, index, false)) {
                failFind(base);
                return 0;
            }
            int value = foundValue();
            if (value == 0) {
                failRead(base, index);
            }
            return value;
        }

        private void failRead(int base, int index) {
            int state = store.get(found, STATE);
            if (key == 0 && state == IS_ARRAY) {
                failTold("is array: ", base, index);
            } else if (key != 0 && state == HAS_VALUE) {
                core.fail("no array: ", base);
            } else {
                failTold("no name: ", base, index);
            }
        }

        private boolean write(int name, int value) {
            cutName(name);
            return write(base, index, value);
        }

        /** Writes a name, its WATCHES behind it; false with the ERROR. */
        private boolean write(int base, int index, int value) {
            if (core.halted) {
                return false;
            }
            if (!find(core.level(), base, index, true)) {
                return failFind(base);
            }
            int v = found;
            if (key == 0 && store.get(v, STATE) == IS_ARRAY) {
                return failTold("is array: ", base, index);
            }
            if (key != 0 && store.get(v, STATE) == HAS_VALUE) {
                return core.fail("no array: ", base);
            }
            int own = key == 0 ? v : elementToWrite(v, key);
            store.set(own, STATE, HAS_VALUE);
            store.set(own, VALUE_OF, value);
            return watch(WRITE, base, index, key == 0 ? 0 : v, own, store.get(own, WATCHES)) != FAILED;
        }

        /** The ELEMENT; one that comes stands behind the others. */
        private int elementToWrite(int array, int index) {
            store.set(array, STATE, IS_ARRAY);
            int e = elementOf(array, index);
            if (e == 0) {
                return newElement(array, index);
            }
            if (store.get(e, STATE) == NOT_THERE) {
                removeElement(array, e);
                addElement(array, e);
            }
            return e;
        }

        /** Answers the VALUE that a name has, by no WATCH. */
        private boolean answer(int name) {
            cutName(name);
            find(core.level(), base, index, false);
            int value = foundValue();
            return value != 0 ? core.give(value) : core.fail("no name: ", name);
        }

        /** Unsets a name, its WATCHES behind it; quietly if that asks for no ERROR where it isn't there. */
        private boolean unset(int name, boolean quiet) {
            cutName(name);
            return unset(base, index, quiet);
        }

        private boolean unset(int base, int index, boolean quiet) {
            if (core.halted) {
                return false;
            }
            find(core.level(), base, index, false);
            if (!isFoundThere()) {
                if (quiet) {
                    return true;
                }
                return trouble == NO_ROOM ? failRoom(base) : failTold("no name: ", base, index);
            }
            unsets++;
            int array = key == 0 ? 0 : found;
            int own = key == 0 ? found : elementOf(found, key);
            int watches = store.get(own, WATCHES);
            clearVariable(own, unsets);
            watch(UNSET, base, index, array, own, watches);
            if (array != 0) {
                tidyElement(array, own);
            }
            return !core.halted;
        }

        /** A variable isn't there any more, nor are its ELEMENTS; its WATCHES are removed by the act of this number. */
        private void clearVariable(int v, int act) {
            store.set(v, STATE, NOT_THERE);
            store.set(v, VALUE_OF, 0);
            removeWatches(v, act);
            int next = 0;
            for (int e = store.get(v, FIRST); e != 0; e = next) {
                next = store.get(e, NEXT_ONE);
                store.set(e, STATE, NOT_THERE);
                store.set(e, VALUE_OF, 0);
                removeWatches(e, -1);
                tidyElement(v, e);
            }
        }

        private void removeWatches(int v, int act) {
            for (int w = store.get(v, WATCHES); w != 0; w = store.get(w, NEXT_ONE)) {
                store.set(w, REMOVED, act);
            }
            store.set(v, WATCHES, 0);
        }

        // ---- WATCHES

        private void addWatch(int v, int acts, int command) {
            int w = store.newRecord(A_WATCH);
            store.set(w, ACTS, acts);
            store.set(w, NAME, command);
            store.set(w, NEXT_ONE, store.get(v, WATCHES));
            store.set(v, WATCHES, w);
        }

        private void removeWatch(int v, int acts, int command) {
            int w = store.get(v, WATCHES);
            while (w != 0 && (store.get(w, ACTS) != acts || !store.same(store.get(w, NAME), command))) {
                w = store.get(w, NEXT_ONE);
            }
            if (w != 0) {
                unlink(v, WATCHES, w);
                store.set(w, REMOVED, -1);
            }
        }

        /**
         * Does the WATCHES of an act: those of the array, if it is of an ELEMENT, then its own, which begin with watches.
         * What has become of it.
         */
        private int watch(int act, int base, int index, int array, int own, int watches) {
            int first = array == 0 ? 0 : awake(act, array, store.get(array, WATCHES));
            int second = awake(act, own, watches);
            if (first == 0 && second == 0) {
                return NOTHING_DONE;
            }
            if (watching >= WATCHES_LIMIT || core.depth() >= DEEPEST) {
                if (act == UNSET) {
                    return NOTHING_DONE;
                }
                core.fail("too deep");
                return FAILED;
            }
            int number = unsets;
            watching++;
            boolean fine = doWatches(act, base, index, array, first, number) && doWatches(act, base, index, own, second, number);
            watching--;
            if (!fine) {
                return FAILED;
            }
            core.give(EMPTY);
            return ALL_DONE;
        }

        /** The first of the WATCHES if any of them is for the act and none of the variable's are being done; else 0. */
        private int awake(int act, int v, int watches) {
            if (store.get(v, BUSY) != 0) {
                return 0;
            }
            for (int w = watches; w != 0; w = store.get(w, NEXT_ONE)) {
                if ((store.get(w, ACTS) & act) != 0) {
                    return watches;
                }
            }
            return 0;
        }

        private boolean doWatches(int act, int base, int index, int v, int watches, int number) {
            boolean fine = true;
            if (watches != 0) {
                store.set(v, BUSY, 1);
            }
            for (int w = watches; w != 0 && fine; w = store.get(w, NEXT_ONE)) {
                int removed = store.get(w, REMOVED);
                boolean due = removed == 0 || act == UNSET && removed == number;
                if (due && (store.get(w, ACTS) & act) != 0) {
                    fine = doWatch(act, base, index, store.get(w, NAME));
                }
            }
            if (watches != 0) {
                store.set(v, BUSY, 0);
            }
            return fine;
        }

        private boolean doWatch(int act, int base, int index, int command) {
            store.open();
            store.putText(command);
            store.put(BLANK);
            lists.putElement(base, 0, store.size(base), true);
            store.put(BLANK);
            lists.putElement(index, 0, store.size(index), false);
            store.put(BLANK);
            store.putWord(act == READ ? "read" : act == WRITE ? "write" : "unset");
            int script = core.close();
            if (!core.spend(1 + store.size(script))) {
                return false;
            }
            runner.runWithin(script);
            if (core.halted) {
                return false;
            }
            return core.code == FINE || act == UNSET || core.fail("watch: ", core.answer);
        }

        // ---- LINKS

        /** Whether a name may become a LINK: it has no :: and no ( ). */
        private boolean isSimple(int name) {
            boolean simple = true;
            for (int i = 0; i < store.size(name); i++) {
                int c = store.letter(name, i);
                simple = simple && c != '(' && c != ')' && !isSeparator(name, i);
            }
            return simple;
        }

        /** Makes a name of the level at hand a LINK to a variable, or to an ELEMENT of it; false with the ERROR. */
        private boolean makeLink(int name, int target, int index) {
            int level = core.level();
            boolean own = store.get(level, OWN) != 0;
            if (!isSimple(name) || !own && store.get(target, OWN) != 0) {
                return core.fail("bad name: ", name);
            }
            int v = variableIn(own ? level : store.get(level, ROOM), name, 0, true);
            int state = store.get(v, STATE);
            if (state != NOT_THERE && state != IS_LINK) {
                return core.fail("is there: ", name);
            }
            if (v == target) {
                return core.fail("is itself: ", name);
            }
            removeWatches(v, -1);
            store.set(v, STATE, IS_LINK);
            store.set(v, TARGET, target);
            store.set(v, VALUE_OF, index);
            return true;
        }

        /** Makes a name of a procedure's level a LINK to that of a room. */
        private boolean linkToRoom(int name, int room) {
            if (!isSimple(name)) {
                return core.fail("bad name: ", name);
            }
            key = 0;
            trouble = 0;
            follow(variableIn(room, name, 0, true));
            return makeLink(name, found, key);
        }
    }

    /** Runs what lies on the stack: a token, a command, or what goes on when another one has ended, one at a time. */
    private static final class Runner {
        private final Core core;
        private final Store store;
        private final Cutter cutter;
        private final Formula formula;
        private final Names names;
        private final Letters letters;
        private final Lists lists;
        private Control control;
        private NameCommands nameCommands;
        private ListCommands listCommands;
        private LetterCommands letterCommands;
        private int coroutine;
        private int coroutineFrame;
        private int running;

        private Runner(Core core, Cutter cutter, Formula formula, Names names) {
            this.core = core;
            this.store = core.store;
            this.cutter = cutter;
            this.formula = formula;
            this.names = names;
            this.letters = names.letters;
            this.lists = names.lists;
        }

        private void start(int script) {
            enterScript(script, names.ground);
            run(0);
        }

        /** After the LIMIT: what was running is no more. */
        private void abandon() {
            int next = 0;
            for (int c = coroutine; c != 0; c = next) {
                next = store.get(c, OUTER);
                names.drop(c);
            }
            coroutine = 0;
            coroutineFrame = 0;
            running = 0;
            for (int level = store.get(names.ground, NEXT_ONE); level != 0; level = next) {
                next = store.get(level, NEXT_ONE);
                if (store.get(level, OWNER) == 0) {
                    names.endLevel(level);
                }
            }
        }

        /** Runs a script at the level at hand while the command at hand waits; how it ended is told by the core. */
        private void runWithin(int script) {
            int args = core.args;
            int words = core.words;
            int task = core.task;
            if (enterScript(script, core.level())) {
                run(core.frame - core.at(core.frame + BACK));
            }
            core.args = args;
            core.words = words;
            core.task = task;
        }

        /** Runs until the frame at hand is the one below all that is to be run. */
        private void run(int below) {
            for (int turn = 0; turn < TURNS && core.frame != below && !core.halted; turn++) {
                if (names.watching == 0) {
                    core.collect();
                }
                if (core.task == DO_TOKEN) {
                    doToken();
                } else if (core.task == DO_COMMAND) {
                    doCommand();
                } else {
                    resume();
                }
            }
            if (core.frame != below) {
                core.halt();
            }
        }

        // ---- frames

        private void pushFrame(int kind, int depth, int level) {
            int place = core.top;
            core.push(kind);
            core.push(place - core.frame);
            core.push(depth);
            core.push(level);
            core.frame = place;
        }

        private void pushCode(int kind, int depth, int level, int source) {
            pushFrame(kind, depth, level);
            core.push(source);
            core.push(0);
            core.push(CODE);
            core.push(0);
            core.push(0);
            core.give(EMPTY);
            core.task = DO_TOKEN;
        }

        /** A frame for a command that goes on when what it begins has ended. */
        private void pushControl(int kind) {
            pushFrame(kind, core.depth(), core.level());
            core.push(core.words);
        }

        /** The frame at hand ends: the one below gets the code and the answer. */
        private void leave() {
            core.top = core.frame;
            core.frame -= core.at(core.frame + BACK);
            core.task = DO_RESUME;
        }

        /** Begins a script, one deeper; false with the ERROR. */
        private boolean enterScript(int script, int level) {
            if (core.depth() >= DEEPEST) {
                return core.fail("too deep");
            }
            pushCode(SCRIPT_FRAME, core.depth() + 1, level, script);
            core.push(T_NEXT);
            return true;
        }

        /** Begins an expression; false with the ERROR. */
        private boolean enterExpression(int expression) {
            pushCode(EXPRESSION_FRAME, core.depth(), core.level(), expression);
            int fault = formula.cut(expression);
            if (fault != 0) {
                leave();
                return failFault(fault);
            }
            return true;
        }

        /** Begins what subst does; false with the ERROR. */
        private boolean enterSubst(int text) {
            pushCode(SUBST_FRAME, core.depth(), core.level(), text);
            int fault = cutter.cutWhole(text);
            if (fault != 0) {
                leave();
                return failFault(fault);
            }
            return true;
        }

        private boolean failFault(int fault) {
            switch (fault) {
                case MISSING_BRACE: return core.fail("missing brace");
                case MISSING_QUOTE: return core.fail("missing quote");
                case MISSING_BRACKET: return core.fail("missing bracket");
                case MISSING_PARENTHESIS: return core.fail("missing parenthesis");
                case BEHIND_BRACE: return core.fail("letters behind brace");
                case BEHIND_QUOTE: return core.fail("letters behind quote");
                case TOO_DEEP: return core.fail("too deep");
                default: return core.fail("bad expression");
            }
        }

        // ---- tokens

        private void doToken() {
            int frame = core.frame;
            int place = frame + core.at(frame + TOKEN);
            int a = core.at(place + 1);
            int b = core.at(place + 2);
            boolean fine = true;
            int length = 1;
            switch (core.at(place)) {
                case T_NEXT: nextCommand(frame); return;
                case T_BEGIN: fine = beginCommand(frame); break;
                case T_ROW: fine = pushRow(frame, a, b); length = 3; break;
                case T_RAW: fine = pushRaw(frame, a, b); length = 3; break;
                case T_VALUE: fine = pushValue(frame, a, b); length = 3; break;
                case T_ELEMENT: fine = pushElement(frame, a, b); length = 3; break;
                case T_CLEAR: core.give(EMPTY); break;
                case T_PUT: core.push(core.answer); break;
                case T_TICK: fine = core.spend(1); break;
                case T_JOIN: fine = join(a); length = 2; break;
                case T_SPREAD: fine = lists.pushAll(core.pop()) >= 0; break;
                case T_RUN: runWords(frame); break;
                case T_FINISH: finish(frame); return;
                case T_OPERAND: fine = core.spend(1 + store.size(core.at(core.top - 1))); break;
                case T_UNARY: fine = formula.workUnary(a); length = 2; break;
                case T_BINARY: fine = formula.workBinary(a); length = 2; break;
                case T_FUNCTION: fine = formula.workFunction(a, b); length = 3; break;
                case T_JUMP: length = a - core.at(frame + TOKEN); break;
                default: doTruth(frame, core.at(place), a); return;
            }
            core.put(frame + TOKEN, core.at(frame + TOKEN) + length);
            if (!fine) {
                unwind(frame);
            }
        }

        /** The tokens that ask for the truth of what is on top: && || ? : go on elsewhere if that is enough. */
        private void doTruth(int frame, int token, int elsewhere) {
            int truth = formula.takeTruth(core.pop());
            if (truth < 0) {
                unwind(frame);
                return;
            }
            boolean enough = token == T_OR ? truth == 1 : token != T_TRUTH && truth == 0;
            if (token == T_TRUTH || enough && token != T_CHOOSE) {
                formula.pushTruth(truth == 1);
            }
            int length = token == T_TRUTH ? 1 : 2;
            core.put(frame + TOKEN, enough ? elsewhere : core.at(frame + TOKEN) + length);
        }

        /** The next command of a script takes the place of the one that has ended. */
        private void nextCommand(int frame) {
            core.top = frame + CODE;
            if (!cutter.findCommand(core.at(frame + SOURCE), core.at(frame + PLACE))) {
                core.code = FINE;
                leave();
                return;
            }
            int fault = cutter.cutCommand();
            core.put(frame + PLACE, cutter.at);
            core.put(frame + TOKEN, CODE);
            core.put(frame + BASE, 0);
            if (fault != 0) {
                beginCommand(frame);
                failFault(fault);
                unwind(frame);
            }
        }

        private boolean beginCommand(int frame) {
            core.begun++;
            core.put(frame + OPEN, core.at(frame + OPEN) + 1);
            core.push(core.at(frame + BASE));
            core.put(frame + BASE, core.top - frame);
            return core.spend(1);
        }

        /** What is done in a frame ends with a code: each of its commands that are begun ends with it, too. */
        private void unwind(int frame) {
            int open = core.at(frame + OPEN);
            for (int i = 0; i < open; i++) {
                core.spend(store.size(core.answer));
            }
            leave();
        }

        private boolean pushRow(int frame, int a, int b) {
            store.open();
            letters.putEscaped(core.at(frame + SOURCE), a, b);
            core.push(core.close());
            return !core.halted;
        }

        private boolean pushRaw(int frame, int a, int b) {
            store.open();
            letters.putRaw(core.at(frame + SOURCE), a, b);
            core.push(core.close());
            return !core.halted;
        }

        private boolean pushValue(int frame, int a, int b) {
            int value = names.read(store.part(core.at(frame + SOURCE), a, b));
            core.push(value);
            return value != 0;
        }

        private boolean pushElement(int frame, int a, int b) {
            int index = core.pop();
            int value = names.read(store.part(core.at(frame + SOURCE), a, b), index);
            core.push(value);
            return value != 0;
        }

        /** Puts the parts on top together. */
        private boolean join(int parts) {
            int bottom = core.top - parts;
            store.open();
            for (int i = bottom; i < core.top; i++) {
                store.putText(core.at(i));
            }
            int text = core.close();
            core.top = bottom;
            core.push(text);
            return core.spend(store.size(text));
        }

        /** All words of a command are made. */
        private void runWords(int frame) {
            core.args = frame + core.at(frame + BASE);
            core.words = core.top - core.args;
            int letters = 0;
            for (int i = 0; i < core.words; i++) {
                letters += 1 + store.size(core.word(i));
            }
            core.spend(letters);
            core.give(EMPTY);
            core.task = core.words == 0 ? DO_RESUME : DO_COMMAND;
        }

        /** What an expression or subst has come to. */
        private void finish(int frame) {
            int value = core.pop();
            boolean number = core.at(frame + KIND) == EXPRESSION_FRAME && letters.isInteger(value);
            core.give(number ? core.number(letters.number) : value);
            leave();
        }

        // ---- commands

        private void doCommand() {
            int name = core.word(0);
            int command = names.command(name);
            if (command == 0) {
                command = unknown();
            }
            core.give(EMPTY);
            core.task = DO_RESUME;
            if (command == 0) {
                core.fail("no command: ", name);
                return;
            }
            int type = store.get(command, TYPE);
            if (type == PROCEDURE) {
                control.callProcedure(command);
            } else if (type == COROUTINE) {
                control.callCoroutine(command);
            } else if (type >= 0 && type < ALL_TOLD.length) {
                callTold(ALL_TOLD[type]);
            }
        }

        /** The command unknown, if there is one: its name comes ahead of the words. */
        private int unknown() {
            store.open();
            store.putWord("unknown");
            int name = core.close();
            int command = names.commandIn(names.root, name, 0);
            if (command != 0) {
                core.push(0);
                for (int i = core.top - 1; i > core.args; i--) {
                    core.put(i, core.at(i - 1));
                }
                core.put(core.args, name);
                core.words++;
            }
            return command;
        }

        private void callTold(Told command) {
            Told called = command;
            int given = core.words - 1;
            if (command.home == A_FAMILY && given > 0) {
                called = wordOf(command.text);
                given--;
            }
            if (called == null) {
                core.fail("no such: ", core.word(1));
            } else if (given < called.least || given > called.most) {
                core.failArguments();
            } else {
                callHome(called);
            }
        }

        /** What the second word means in a family; null if it isn't told there. */
        private Told wordOf(String family) {
            for (int i = 0; i < ALL_TOLD.length; i++) {
                if (ALL_TOLD[i].family.equals(family) && store.is(core.word(1), ALL_TOLD[i].text)) {
                    return ALL_TOLD[i];
                }
            }
            return null;
        }

        private void callHome(Told called) {
            switch (called.home) {
                case OF_NAMES: nameCommands.call(called); break;
                case OF_LISTS: listCommands.callList(called); break;
                case OF_DICTIONARIES: listCommands.callDictionary(called); break;
                case OF_LETTERS: letterCommands.call(called); break;
                default: control.call(called); break;
            }
        }

        /** What the frame at hand has begun has ended. */
        private void resume() {
            int frame = core.frame;
            int kind = core.at(frame + KIND);
            if (kind > SUBST_FRAME) {
                core.words = core.at(frame + WORDS);
                core.args = frame - core.words;
                control.resume(kind);
                return;
            }
            if (core.code != FINE) {
                unwind(frame);
                return;
            }
            core.spend(store.size(core.answer));
            core.put(frame + OPEN, core.at(frame + OPEN) - 1);
            core.top = frame + core.at(frame + BASE) - 1;
            core.put(frame + BASE, core.at(core.top));
            core.task = DO_TOKEN;
        }
    }

    /** The commands that evaluate scripts, end with codes, or make commands. */
    private static final class Control {
        // What a loop or try waits for.
        private static final int TEST = 0;
        private static final int BODY_OF_LOOP = 1;
        private static final int STEP = 2;
        private static final int START = 3;

        private final Runner runner;
        private final Core core;
        private final Store store;
        private final Letters letters;
        private final Lists lists;
        private final Names names;
        private int formalName;
        private int formalDefault;
        private int formalSize;

        private Control(Runner runner, Lists lists) {
            this.runner = runner;
            this.core = runner.core;
            this.store = core.store;
            this.letters = lists.letters;
            this.lists = lists;
            this.names = runner.names;
        }

        private void call(Told command) {
            switch (command) {
                case FOREACH: startEach(1, 0); break;
                case LMAP: startEach(1, 1); break;
                case SUBST: runner.enterSubst(core.word(1)); break;
                case EVAL: runner.enterScript(lists.script(1), core.level()); break;
                case EXPR: startExpression(); break;
                case IF: startIf(); break;
                case WHILE: startLoop(WHILE_FRAME, TEST); break;
                case FOR: startLoop(FOR_FRAME, START); break;
                case SWITCH: startSwitch(); break;
                case CATCH: startCatch(); break;
                case TRY: startTry(); break;
                case ERROR_WITH: endWith(ERROR, core.word(1)); break;
                case BREAK_OFF: endWith(BREAK, EMPTY); break;
                case GO_ON: endWith(CONTINUE, EMPTY); break;
                case RETURN_WITH: startReturn(); break;
                case UPLEVEL: startUplevel(); break;
                case PROC: makeProcedure(); break;
                case APPLY: startApply(); break;
                case RENAME: rename(); break;
                case COROUTINE_NEW: startCoroutine(); break;
                case YIELD: yieldNow(); break;
                case NAMESPACE_EVAL: startRoom(); break;
                case NAMESPACE_CURRENT: core.give(names.fullName(names.roomAtHand(), 0)); break;
                case NAMESPACE_EXISTS: core.giveTruth(names.roomByPath(core.word(2), names.roomAtHand(), false) != 0); break;
                case NAMESPACE_DELETE: deleteRoom(); break;
                case NAMESPACE_QUALIFIERS: giveQualifiers(); break;
                default: core.give(names.tailOf(core.word(2))); break;
            }
        }

        private void resume(int kind) {
            switch (kind) {
                case IF_FRAME: resumeIf(); break;
                case WHILE_FRAME: resumeLoop(1, 2, 0); break;
                case FOR_FRAME: resumeLoop(2, 4, 3); break;
                case EACH_FRAME: resumeEach(); break;
                case CATCH_FRAME: resumeCatch(); break;
                case TRY_FRAME: resumeTry(); break;
                case CALL_FRAME: resumeCall(); break;
                case ROOM_FRAME: resumeRoom(); break;
                default: resumeCoroutine(); break;
            }
        }

        private void endWith(int code, int answer) {
            core.code = code;
            core.answer = answer;
        }

        /** A frame that goes on begins a script; if it can't, it ends with that ERROR. */
        private void goOnWith(int script) {
            if (!runner.enterScript(script, core.level())) {
                runner.leave();
            }
        }

        private void goOnWithTest(int expression) {
            if (!runner.enterExpression(expression)) {
                runner.leave();
            }
        }

        private void leaveWith(int answer) {
            core.give(answer);
            runner.leave();
        }

        // ---- expr, if, switch

        private void startExpression() {
            int text = core.word(1);
            if (core.words > 2) {
                store.open();
                for (int i = 1; i < core.words; i++) {
                    if (i > 1) {
                        store.put(BLANK);
                    }
                    store.putText(core.word(i));
                }
                text = core.close();
            }
            runner.enterExpression(text);
        }

        /** Whether the words of if are as they must be. */
        private boolean isIf() {
            int i = 1;
            while (i < core.words) {
                i = scriptOfIf(i) + 1;
                if (i >= core.words) {
                    return i == core.words;
                }
                if (!core.isWord(i, "elseif")) {
                    return (core.isWord(i, "else") ? i + 1 : i) == core.words - 1;
                }
                i++;
            }
            return false;
        }

        /** Where the script behind the test at i stands. */
        private int scriptOfIf(int i) {
            return core.isWord(i + 1, "then") ? i + 2 : i + 1;
        }

        private void startIf() {
            if (!isIf()) {
                core.failArguments();
                return;
            }
            runner.pushControl(IF_FRAME);
            core.push(1);
            goOnWithTest(core.word(1));
        }

        private void resumeIf() {
            int place = core.at(core.frame + STAGE);
            int truth = core.code != FINE ? -1 : runner.formula.takeTruth(core.answer);
            if (truth < 0) {
                runner.leave();
                return;
            }
            int script = scriptOfIf(place);
            if (truth == 0) {
                script++;
                if (core.isWord(script, "elseif")) {
                    core.put(core.frame + STAGE, script + 1);
                    goOnWithTest(core.word(script + 1));
                    return;
                }
                script += core.isWord(script, "else") ? 1 : 0;
            }
            leaveWith(EMPTY);
            if (script < core.words) {
                runner.enterScript(core.word(script), core.level());
            }
        }

        private void startSwitch() {
            boolean glob = core.isWord(1, "-glob");
            int i = glob || core.isWord(1, "-exact") ? 2 : 1;
            i += core.isWord(i, "--") ? 1 : 0;
            int many = core.words - i - 1;
            int bottom = core.args + i + 1;
            if (many == 1) {
                bottom = core.top;
                many = lists.pushAll(core.word(i + 1));
                if (many < 0) {
                    return;
                }
            }
            core.top = core.args + core.words;
            if (many < 2 || many % 2 != 0) {
                core.failArguments();
                return;
            }
            int script = choose(core.word(i), bottom, many, glob);
            if (script != 0) {
                runner.enterScript(script, core.level());
            }
        }

        /** The script of the first pattern that fits; 0 if none does. */
        private int choose(int text, int bottom, int many, boolean glob) {
            for (int i = 0; i < many; i += 2) {
                int pattern = core.at(bottom + i);
                boolean all = i == many - 2 && store.is(pattern, "default");
                if (all || (glob ? letters.fits(pattern, text) : store.same(pattern, text))) {
                    int script = i + 1;
                    while (script < many - 1 && store.is(core.at(bottom + script), "-")) {
                        script += 2;
                    }
                    return core.at(bottom + script);
                }
            }
            return 0;
        }

        // ---- loops

        private void startLoop(int kind, int stage) {
            runner.pushControl(kind);
            core.push(stage);
            if (stage == TEST) {
                goOnWithTest(core.word(1));
            } else {
                goOnWith(core.word(1));
            }
        }

        /** Goes on with a while or for, whose test, body and step, 0 if there is none, are these words. */
        private void resumeLoop(int test, int body, int step) {
            int stage = core.at(core.frame + STAGE);
            int code = core.code;
            if (stage == TEST) {
                int truth = code != FINE ? -1 : runner.formula.takeTruth(core.answer);
                if (truth > 0) {
                    core.put(core.frame + STAGE, BODY_OF_LOOP);
                    goOnWith(core.word(body));
                } else if (truth == 0) {
                    leaveWith(EMPTY);
                } else {
                    runner.leave();
                }
            } else if (code == BREAK && stage != START) {
                leaveWith(EMPTY);
            } else if (code != FINE && (code != CONTINUE || stage != BODY_OF_LOOP)) {
                runner.leave();
            } else if (stage == BODY_OF_LOOP && step != 0) {
                core.put(core.frame + STAGE, STEP);
                goOnWith(core.word(step));
            } else {
                core.put(core.frame + STAGE, TEST);
                goOnWithTest(core.word(test));
            }
        }

        /** Begins foreach, lmap, or dict for, whose first list of names is word first. */
        private void startEach(int first, int gathers) {
            int pairs = (core.words - first - 1) / 2;
            if ((core.words - first) % 2 == 0) {
                core.failArguments();
                return;
            }
            for (int i = 0; i < pairs; i++) {
                int many = lists.elements(core.word(first + 2 * i));
                if (many <= 0) {
                    if (many == 0) {
                        core.fail("no names");
                    }
                    return;
                }
            }
            int rounds = 0;
            for (int i = 0; i < pairs; i++) {
                int many = lists.elements(core.word(first + 2 * i + 1));
                if (many < 0) {
                    return;
                }
                int each = Math.max(1, lists.elements(core.word(first + 2 * i)));
                rounds = Math.max(rounds, (many + each - 1) / each);
            }
            runner.pushControl(EACH_FRAME);
            core.push(0);
            core.push(rounds);
            core.push(first);
            core.push(gathers);
            for (int i = 0; i < pairs; i++) {
                core.push(0);
            }
            nextRound();
        }

        private void nextRound() {
            int frame = core.frame;
            int round = core.at(frame + STAGE);
            if (round >= core.at(frame + ROUNDS)) {
                endEach();
                return;
            }
            core.put(frame + STAGE, round + 1);
            if (writeNames(frame)) {
                goOnWith(core.word(core.words - 1));
            } else {
                runner.leave();
            }
        }

        private void endEach() {
            int frame = core.frame;
            int pairs = (core.words - core.at(frame + FIRST_NAME) - 1) / 2;
            boolean gathers = core.at(frame + GATHERS) != 0;
            leaveWith(gathers ? lists.popWritten(frame + CURSORS + pairs) : EMPTY);
        }

        /** Writes the names of a round; what a list gives next stands in the frame. */
        private boolean writeNames(int frame) {
            int first = core.at(frame + FIRST_NAME);
            int pairs = (core.words - first - 1) / 2;
            for (int i = 0; i < pairs; i++) {
                int namesList = core.word(first + 2 * i);
                int size = store.size(namesList);
                int nameAt = 0;
                while (nameAt < size) {
                    lists.begin(namesList, nameAt);
                    if (!lists.next()) {
                        break;
                    }
                    int name = lists.element();
                    nameAt = lists.at;
                    lists.begin(core.word(first + 2 * i + 1), core.at(frame + CURSORS + i));
                    int value = lists.next() ? lists.element() : EMPTY;
                    core.put(frame + CURSORS + i, lists.at);
                    if (!names.write(name, value)) {
                        return false;
                    }
                }
            }
            return true;
        }

        private void resumeEach() {
            if (core.code == BREAK) {
                endEach();
                return;
            }
            if (core.code != FINE && core.code != CONTINUE) {
                runner.leave();
                return;
            }
            if (core.code == FINE && core.at(core.frame + GATHERS) != 0) {
                core.push(core.answer);
            }
            nextRound();
        }

        // ---- codes

        private void startCatch() {
            runner.pushControl(CATCH_FRAME);
            goOnWith(core.word(1));
        }

        private void resumeCatch() {
            int code = core.code;
            if (core.words > 2 && !names.write(core.word(2), core.answer)) {
                runner.leave();
                return;
            }
            leaveWith(core.number(code));
        }

        private void startTry() {
            if (!core.isWord(2, "finally")) {
                core.failArguments();
                return;
            }
            runner.pushControl(TRY_FRAME);
            for (int i = STAGE; i <= KEPT_THEN; i++) {
                core.push(0);
            }
            goOnWith(core.word(1));
        }

        private void resumeTry() {
            int frame = core.frame;
            if (core.at(frame + STAGE) == 0) {
                core.put(frame + STAGE, 1);
                core.put(frame + KEPT_CODE, core.code);
                core.put(frame + KEPT_ANSWER, core.answer);
                core.put(frame + KEPT_LEFT, core.left);
                core.put(frame + KEPT_THEN, core.then);
                goOnWith(core.word(3));
                return;
            }
            if (core.code == FINE) {
                endWith(core.at(frame + KEPT_CODE), core.at(frame + KEPT_ANSWER));
                core.left = core.at(frame + KEPT_LEFT);
                core.then = core.at(frame + KEPT_THEN);
            }
            runner.leave();
        }

        private void startReturn() {
            int codeAt = 0;
            int levelAt = 0;
            int i = 1;
            while (i + 1 < core.words) {
                if (codeAt == 0 && core.isWord(i, "-code")) {
                    codeAt = i + 1;
                } else if (levelAt == 0 && core.isWord(i, "-level")) {
                    levelAt = i + 1;
                } else {
                    core.failArguments();
                    return;
                }
                i += 2;
            }
            boolean codeFirst = codeAt < levelAt;
            if (codeFirst && !isCode(codeAt) || !isLevel(levelAt) || !codeFirst && !isCode(codeAt)) {
                return;
            }
            int code = codeOf(codeAt);
            long level = levelAt == 0 ? 1 : levelOf(levelAt);
            endWith(level == 0 ? code : RETURN, i < core.words ? core.word(i) : EMPTY);
            // More than there are levels is as much as any number more.
            core.left = level == 0 ? 1 : (int) Math.min(level, 1 << 20);
            core.then = level == 0 ? 0 : code;
        }

        private boolean isCode(int i) {
            if (i == 0 || wordCode(core.word(i)) >= 0) {
                return true;
            }
            boolean fits = letters.isInteger(core.word(i)) && letters.number == (int) letters.number;
            return fits || core.fail("bad code: ", core.word(i));
        }

        private int codeOf(int i) {
            if (i == 0) {
                return FINE;
            }
            int code = wordCode(core.word(i));
            if (code < 0 && letters.isInteger(core.word(i))) {
                code = (int) letters.number;
            }
            return code;
        }

        private int wordCode(int text) {
            if (store.is(text, "ok")) {
                return FINE;
            }
            if (store.is(text, "error")) {
                return ERROR;
            }
            if (store.is(text, "return")) {
                return RETURN;
            }
            return store.is(text, "break") ? BREAK : store.is(text, "continue") ? CONTINUE : -1;
        }

        private boolean isLevel(int i) {
            return i == 0 || levelOf(i) >= 0 || core.fail("bad level: ", core.word(i));
        }

        private long levelOf(int i) {
            return letters.isInteger(core.word(i)) ? letters.number : -1;
        }

        // ---- levels, procedures

        private void startUplevel() {
            boolean isTold = core.words > 2 && names.isLevel(core.word(1));
            int level = names.levelBy(isTold ? core.word(1) : core.number(1));
            if (level != 0) {
                runner.enterScript(lists.script(isTold ? 2 : 1), level);
            }
        }

        private void makeProcedure() {
            int name = core.word(1);
            int room = names.homeOf(name);
            if (room == 0) {
                return;
            }
            int command = names.commandIn(room, name, names.tail);
            if (isRunning(command)) {
                core.fail("is running: ", name);
                return;
            }
            if (!areFormals(core.word(2))) {
                return;
            }
            if (command == 0) {
                command = names.addCommand(room, names.tailOf(name), PROCEDURE);
            } else {
                names.forget(command);
                names.setType(command, PROCEDURE);
            }
            store.set(command, FORMALS, core.word(2));
            store.set(command, BODY, core.word(3));
            core.give(EMPTY);
        }

        private boolean isRunning(int command) {
            return store.get(command, TYPE) == COROUTINE && store.get(command, IS_RUNNING) != 0;
        }

        private boolean areFormals(int formals) {
            int many = lists.elements(formals);
            int place = 0;
            for (int i = 0; i < many; i++) {
                lists.begin(formals, place);
                lists.next();
                int formal = lists.element();
                place = lists.at;
                takeFormal(formal);
                if (formalSize < 1 || formalSize > 2 || !isFormalName(formalName)) {
                    return core.fail("bad formal: ", formal);
                }
            }
            return many >= 0;
        }

        private boolean isFormalName(int name) {
            boolean fine = store.size(name) > 0;
            for (int i = 0; i < store.size(name); i++) {
                fine = fine && store.letter(name, i) != '(' && store.letter(name, i) != ':';
            }
            return fine;
        }

        /** The name of a formal, its default, 0 without one, and how many elements it has, -1 if it is no list. */
        private void takeFormal(int formal) {
            formalName = EMPTY;
            formalDefault = 0;
            formalSize = 0;
            lists.begin(formal, 0);
            while (lists.next()) {
                if (formalSize == 0) {
                    formalName = lists.element();
                } else if (formalSize == 1) {
                    formalDefault = lists.element();
                }
                formalSize++;
            }
            formalSize = lists.fault != 0 ? -1 : formalSize;
        }

        private void callProcedure(int command) {
            startCall(store.get(command, FORMALS), store.get(command, BODY), store.get(command, ROOM), 1);
        }

        /** Calls with the words behind the first ones. */
        private void startCall(int formals, int body, int room, int skip) {
            int many = lists.elements(formals);
            if (many < 0) {
                return;
            }
            if (!pushArguments(formals, many, skip)) {
                core.top = core.args + core.words;
                core.failArguments();
                return;
            }
            int bottom = core.args + core.words;
            if (core.depth() >= DEEPEST) {
                core.top = bottom;
                core.fail("too deep");
                return;
            }
            if (!core.spend(many)) {
                return;
            }
            int level = names.newLevel(room, 1);
            for (int i = bottom; i + 1 < core.top; i += 2) {
                int v = names.variableIn(level, core.at(i), 0, true);
                store.set(v, STATE, HAS_VALUE);
                store.set(v, VALUE_OF, core.at(i + 1));
            }
            core.top = bottom;
            beginLevel(CALL_FRAME, level, body);
        }

        private void beginLevel(int kind, int level, int script) {
            runner.pushControl(kind);
            core.push(level);
            store.set(level, CALLED_AT, core.frame - runner.coroutineFrame);
            runner.enterScript(script, level);
        }

        /** Pushes each formal's name and value; false if there are too few or too many words for them. */
        private boolean pushArguments(int formals, int many, int skip) {
            int place = 0;
            int word = skip;
            for (int i = 0; i < many; i++) {
                lists.begin(formals, place);
                lists.next();
                int formal = lists.element();
                place = lists.at;
                takeFormal(formal);
                int value = formalDefault;
                if (i == many - 1 && store.is(formalName, "args")) {
                    value = lists.written(core.args + word, Math.max(0, core.words - word));
                    word = Math.max(word, core.words);
                } else if (word < core.words) {
                    value = core.word(word);
                    word++;
                }
                if (value == 0) {
                    return false;
                }
                core.push(formalName);
                core.push(value);
            }
            return word >= core.words;
        }

        /** What a RETURN that leaves a procedure or coroutine becomes. */
        private void endReturn() {
            if (core.code != RETURN) {
                return;
            }
            core.left--;
            if (core.left <= 0) {
                core.code = core.then;
                core.left = 1;
                core.then = 0;
            }
        }

        private void resumeCall() {
            names.endLevel(core.at(core.frame + NEW_LEVEL));
            if (core.code == BREAK || core.code == CONTINUE) {
                core.fail("code ", core.number(core.code));
            } else {
                endReturn();
            }
            runner.leave();
        }

        private void startApply() {
            int lambda = core.word(1);
            int bottom = core.top;
            int many = lists.pushAll(lambda);
            if (many < 0) {
                return;
            }
            int formals = core.at(bottom);
            int body = core.at(bottom + 1);
            int path = many == 3 ? core.at(bottom + 2) : EMPTY;
            core.top = bottom;
            if (many != 2 && many != 3) {
                core.fail("no lambda: ", lambda);
                return;
            }
            if (!areFormals(formals)) {
                return;
            }
            int room = names.roomByPath(path, names.root, false);
            if (room == 0) {
                core.fail("no room: ", path);
                return;
            }
            startCall(formals, body, room, 2);
        }

        private void rename() {
            int name = core.word(1);
            int other = core.word(2);
            int command = names.command(name);
            if (command == 0) {
                core.fail("no command: ", name);
                return;
            }
            if (store.size(other) == 0) {
                if (isRunning(command)) {
                    core.fail("is running: ", name);
                } else {
                    names.drop(command);
                }
                return;
            }
            int room = names.homeOf(other);
            if (room == 0) {
                return;
            }
            if (names.commandIn(room, other, names.tail) != 0) {
                core.fail("is there: ", other);
                return;
            }
            names.unlink(store.get(command, ROOM), COMMANDS, command);
            store.set(command, NAME, names.tailOf(other));
            store.set(command, ROOM, room);
            names.link(room, COMMANDS, command);
        }

        // ---- rooms

        private void startRoom() {
            if (core.depth() >= DEEPEST) {
                core.fail("too deep");
                return;
            }
            int script = lists.script(3);
            if (core.halted) {
                return;
            }
            int level = names.newLevel(names.roomByPath(core.word(2), names.roomAtHand(), true), 0);
            beginLevel(ROOM_FRAME, level, script);
        }

        private void resumeRoom() {
            names.endLevel(core.at(core.frame + NEW_LEVEL));
            runner.leave();
        }

        private void deleteRoom() {
            int room = names.roomByPath(core.word(2), names.roomAtHand(), false);
            if (room == 0) {
                core.fail("no room: ", core.word(2));
            } else if (names.isInUse(room)) {
                core.fail("in use: ", core.word(2));
            } else {
                names.deleteRoom(room);
            }
        }

        private void giveQualifiers() {
            names.cutPath(core.word(2));
            core.give(store.part(core.word(2), 0, Math.max(0, names.pathEnd)));
        }

        // ---- coroutines

        private void startCoroutine() {
            int name = core.word(1);
            int room = names.homeOf(name);
            if (room == 0) {
                return;
            }
            if (names.commandIn(room, name, names.tail) != 0) {
                core.fail("is there: ", name);
                return;
            }
            if (runner.running >= RUNNING_LIMIT) {
                core.fail("too deep");
                return;
            }
            enterCoroutine(names.addCommand(room, names.tailOf(name), COROUTINE));
            runner.pushCode(SCRIPT_FRAME, 1, names.ground, EMPTY);
            core.push(T_RUN);
            core.push(T_NEXT);
            boolean fine = runner.beginCommand(core.frame);
            for (int i = 2; i < core.words && fine; i++) {
                core.push(core.word(i));
            }
        }

        private void enterCoroutine(int command) {
            runner.pushControl(COROUTINE_FRAME);
            core.push(command);
            core.push(names.watching);
            core.push(runner.coroutineFrame);
            store.set(command, IS_RUNNING, 1);
            store.set(command, OUTER, runner.coroutine);
            runner.coroutine = command;
            runner.coroutineFrame = core.frame;
            runner.running++;
        }

        /** The coroutine at hand stops or ends: the one that made it run is at hand again. */
        private void leaveCoroutine() {
            int command = runner.coroutine;
            core.frame = runner.coroutineFrame;
            runner.coroutine = store.get(command, OUTER);
            runner.coroutineFrame = core.at(core.frame + FRAME_THEN);
            runner.running--;
            store.set(command, IS_RUNNING, 0);
            store.set(command, OUTER, 0);
            runner.leave();
        }

        private void resumeCoroutine() {
            int command = core.at(core.frame + WHO);
            leaveCoroutine();
            names.drop(command);
            endReturn();
        }

        private void yieldNow() {
            int command = runner.coroutine;
            int value = core.word(1);
            if (command == 0) {
                core.fail("no coroutine");
                return;
            }
            if (names.watching > core.at(runner.coroutineFrame + WATCHED_THEN)) {
                core.fail("can't yield");
                return;
            }
            saveStack(command);
            leaveCoroutine();
            core.give(value);
        }

        /** Lays the coroutine's piece of the stack aside, and where its frame is. */
        private void saveStack(int command) {
            int from = runner.coroutineFrame + COROUTINE_SIZE;
            int size = core.top - from + 1;
            int last = 0;
            for (int i = 0; i < size; i++) {
                int cell = PIECE + i % (CELLS - PIECE);
                if (cell == PIECE) {
                    int piece = store.newRecord(A_PIECE);
                    if (last == 0) {
                        store.set(command, SAVED, piece);
                    } else {
                        store.set(last, NEXT_ONE, piece);
                    }
                    last = piece;
                }
                store.set(last, cell, i == 0 ? core.frame - runner.coroutineFrame : core.at(from + i - 1));
            }
            store.set(command, SAVED_SIZE, size);
        }

        private void loadStack(int command) {
            int size = store.get(command, SAVED_SIZE);
            int piece = store.get(command, SAVED);
            int distance = 0;
            for (int i = 0; i < size; i++) {
                int cell = PIECE + i % (CELLS - PIECE);
                if (i > 0 && cell == PIECE) {
                    piece = store.get(piece, NEXT_ONE);
                }
                if (i == 0) {
                    distance = store.get(piece, cell);
                } else {
                    core.push(store.get(piece, cell));
                }
            }
            store.set(command, SAVED, 0);
            core.frame += distance;
        }

        private void callCoroutine(int command) {
            int value = core.word(1);
            if (core.words > 2) {
                core.failArguments();
            } else if (isRunning(command)) {
                core.fail("is running: ", core.word(0));
            } else if (runner.running >= RUNNING_LIMIT) {
                core.fail("too deep");
            } else {
                enterCoroutine(command);
                loadStack(command);
                core.give(value);
            }
        }
    }

    /** The commands about names, arrays, what is known, and WATCHES. */
    private static final class NameCommands {
        private final Runner runner;
        private final Core core;
        private final Store store;
        private final Letters letters;
        private final Lists lists;
        private final Names names;

        private NameCommands(Runner runner, Lists lists) {
            this.runner = runner;
            this.core = runner.core;
            this.store = core.store;
            this.letters = lists.letters;
            this.lists = lists;
            this.names = runner.names;
        }

        private void call(Told command) {
            switch (command) {
                case SET: set(); break;
                case INCR: incr(); break;
                case APPEND: append(false); break;
                case LAPPEND: append(true); break;
                case UNSET_NAMES: unset(); break;
                case GLOBAL: global(); break;
                case VARIABLE: variable(); break;
                case UPVAR: upvar(); break;
                case ARRAY_EXISTS: core.giveTruth(names.isArray(core.word(2))); break;
                case ARRAY_SET: arraySet(); break;
                case ARRAY_GET: giveElements(true); break;
                case ARRAY_NAMES: giveElements(false); break;
                case ARRAY_SIZE: giveArraySize(); break;
                case ARRAY_UNSET: arrayUnset(); break;
                case INFO_EXISTS: core.giveTruth(names.isThere(core.word(2))); break;
                case INFO_LEVEL: giveLevel(); break;
                case INFO_COMMANDS: giveCommands(false); break;
                case INFO_PROCS: giveCommands(true); break;
                case INFO_ARGS: giveProcedure(true); break;
                case INFO_BODY: giveProcedure(false); break;
                case INFO_COROUTINE: giveCoroutine(); break;
                default: trace(command); break;
            }
        }

        private void set() {
            int name = core.word(1);
            if (core.words == 2) {
                giveRead(name);
            } else if (names.write(name, core.word(2))) {
                names.answer(name);
            }
        }

        private void giveRead(int name) {
            int value = names.read(name);
            if (value != 0) {
                core.give(value);
            }
        }

        private void incr() {
            int name = core.word(1);
            int value = valueOrNone(name);
            if (value == 0) {
                return;
            }
            int sum = raised(value, 2);
            if (sum != 0 && names.write(name, sum)) {
                names.answer(name);
            }
        }

        /** What a name has, read, or no letters if it isn't there; 0 with the ERROR. */
        private int valueOrNone(int name) {
            if (names.isThere(name)) {
                return names.read(name);
            }
            if (names.trouble == Names.NO_ROOM) {
                names.failRoom(names.base);
                return 0;
            }
            return EMPTY;
        }

        /** A number that has become more by that of a word, or 1; what has no letters is none yet. 0 with the ERROR. */
        private int raised(int value, int word) {
            boolean none = value == EMPTY && !names.isFoundThere();
            return raised(value, none, word);
        }

        private int raised(int value, boolean none, int word) {
            if (!none && !letters.isInteger(value)) {
                core.fail("no number: ", value);
                return 0;
            }
            long a = none ? 0 : letters.number;
            if (word < core.words && !letters.isInteger(core.word(word))) {
                core.fail("no number: ", core.word(word));
                return 0;
            }
            long b = word < core.words ? letters.number : 1;
            if (Formula.isSumTooGreat(a, b)) {
                core.fail("too great");
                return 0;
            }
            return core.number(a + b);
        }

        private void append(boolean asList) {
            int name = core.word(1);
            if (core.words == 2) {
                giveRead(name);
                return;
            }
            int value = valueOrNone(name);
            if (value == 0) {
                return;
            }
            int text = asList ? longerList(value, 2) : longerText(value);
            if (text != 0 && core.spend(store.size(text)) && names.write(name, text)) {
                names.answer(name);
            }
        }

        private int longerText(int value) {
            store.open();
            store.putText(value);
            for (int i = 2; i < core.words; i++) {
                store.putText(core.word(i));
            }
            return core.close();
        }

        /** A list with the words from .. behind its elements; 0 with the ERROR. */
        private int longerList(int value, int from) {
            int bottom = core.top;
            if (lists.pushAll(value) < 0) {
                return 0;
            }
            for (int i = from; i < core.words; i++) {
                core.push(core.word(i));
            }
            return lists.popWritten(bottom);
        }

        private void unset() {
            boolean quiet = core.isWord(1, "-nocomplain");
            boolean fine = true;
            for (int i = quiet ? 2 : 1; i < core.words && fine; i++) {
                fine = names.unset(core.word(i), quiet);
            }
        }

        private void global() {
            boolean fine = store.get(core.level(), OWN) != 0;
            for (int i = 1; i < core.words && fine; i++) {
                fine = names.linkToRoom(core.word(i), names.root);
            }
        }

        private void variable() {
            boolean own = store.get(core.level(), OWN) != 0;
            for (int i = 1; i < core.words; i += 2) {
                int name = core.word(i);
                if (!names.isSimple(name)) {
                    core.fail("bad name: ", name);
                    return;
                }
                if (own && !names.linkToRoom(name, names.roomAtHand())) {
                    return;
                }
                if (i + 1 < core.words && !names.write(name, core.word(i + 1))) {
                    return;
                }
            }
        }

        private void upvar() {
            boolean isTold = core.words % 2 == 0;
            int level = names.levelBy(isTold ? core.word(1) : core.number(1));
            boolean fine = level != 0;
            for (int i = isTold ? 2 : 1; i + 1 < core.words && fine; i += 2) {
                names.cutName(core.word(i));
                int base = names.base;
                fine = names.find(level, base, names.index, true)
                    ? names.makeLink(core.word(i + 1), names.found, names.key) : names.failFind(base);
            }
        }

        // ---- arrays

        private void arraySet() {
            int name = core.word(2);
            names.cutName(name);
            int base = names.base;
            if (!names.find(core.level(), base, names.index, false)) {
                names.failFind(base);
                return;
            }
            if (names.key != 0 || store.get(names.found, STATE) == HAS_VALUE) {
                core.fail("no array: ", base);
                return;
            }
            int bottom = core.top;
            int many = lists.pushAll(core.word(3));
            if (many % 2 != 0) {
                if (many > 0) {
                    core.fail("no dictionary");
                }
                core.top = bottom;
                return;
            }
            if (many == 0 && names.find(core.level(), base, 0, true)) {
                store.set(names.found, STATE, IS_ARRAY);
            }
            boolean fine = true;
            for (int i = bottom; i < bottom + many && fine; i += 2) {
                fine = names.write(base, core.at(i), core.at(i + 1));
            }
            core.top = bottom;
        }

        /** Pushes the INDEXES of the array that was found that fit the pattern in a word, if there is one. */
        private void pushElements(int patternWord, boolean values) {
            for (int e = store.get(names.found, FIRST); e != 0; e = store.get(e, NEXT_ONE)) {
                boolean fits = patternWord >= core.words || letters.fits(core.word(patternWord), store.get(e, NAME));
                if (fits && store.get(e, STATE) == HAS_VALUE) {
                    core.push(store.get(e, NAME));
                    if (values) {
                        core.push(store.get(e, VALUE_OF));
                    }
                }
            }
        }

        private void giveElements(boolean values) {
            int bottom = core.top;
            if (names.isArray(core.word(2))) {
                pushElements(3, values);
            }
            core.give(lists.popWritten(bottom));
        }

        private void giveArraySize() {
            int bottom = core.top;
            if (names.isArray(core.word(2))) {
                pushElements(3, false);
            }
            int many = core.top - bottom;
            core.top = bottom;
            core.giveNumber(many);
        }

        private void arrayUnset() {
            int name = core.word(2);
            boolean isArray = names.isArray(name);
            if (names.trouble == Names.NO_ROOM) {
                names.failRoom(names.base);
            }
            if (!isArray) {
                return;
            }
            if (core.words == 3) {
                names.unset(name, true);
                return;
            }
            int bottom = core.top;
            pushElements(3, false);
            int end = core.top;
            boolean fine = true;
            for (int i = bottom; i < end && fine; i++) {
                fine = names.unset(name, core.at(i), true);
            }
            core.top = bottom;
        }

        // ---- info

        private void giveLevel() {
            int number = store.get(core.level(), NUMBER);
            if (core.words == 2) {
                core.giveNumber(number);
                return;
            }
            long wanted = letters.isInteger(core.word(2)) ? letters.number : 0;
            if (wanted < 1 || wanted > number) {
                core.fail("no level: ", core.word(2));
                return;
            }
            int frame = runner.coroutineFrame + store.get(names.levelOfNumber(wanted), CALLED_AT);
            int many = core.at(frame + WORDS);
            core.give(lists.written(frame - many, many));
        }

        private void giveCommands(boolean procedures) {
            int bottom = core.top;
            for (int c = store.get(names.roomAtHand(), COMMANDS); c != 0; c = store.get(c, NEXT_ONE)) {
                boolean wanted = !procedures || store.get(c, TYPE) == PROCEDURE;
                if (wanted && (core.words < 3 || letters.fits(core.word(2), store.get(c, NAME)))) {
                    core.push(store.get(c, NAME));
                }
            }
            core.give(lists.popWritten(bottom));
        }

        private void giveProcedure(boolean formals) {
            int command = names.command(core.word(2));
            if (store.get(command, TYPE) != PROCEDURE) {
                core.fail("no procedure: ", core.word(2));
            } else if (formals) {
                giveFormals(store.get(command, FORMALS));
            } else {
                core.give(store.get(command, BODY));
            }
        }

        private void giveFormals(int formals) {
            int bottom = core.top;
            int many = lists.pushAll(formals);
            for (int i = bottom; i < bottom + many; i++) {
                core.put(i, lists.elementAt(core.at(i), 0));
            }
            core.give(lists.popWritten(bottom));
        }

        private void giveCoroutine() {
            int c = runner.coroutine;
            core.give(c == 0 ? EMPTY : names.fullName(store.get(c, ROOM), store.get(c, NAME)));
        }

        // ---- WATCHES

        private void trace(Told command) {
            if (!core.isWord(2, "variable")) {
                core.failArguments();
                return;
            }
            boolean adds = command == Told.TRACE_ADD;
            names.cutName(core.word(3));
            int base = names.base;
            names.find(core.level(), base, names.index, adds);
            boolean wrong = names.key != 0 && store.get(names.found, STATE) == HAS_VALUE;
            if (names.trouble == Names.NO_ROOM) {
                names.failRoom(base);
            } else if (adds && (names.trouble != 0 || wrong)) {
                core.fail("no array: ", base);
            } else if (command == Told.TRACE_INFO) {
                giveWatches(watchedOne(false));
            } else {
                changeWatches(adds);
            }
        }

        /** What was found, or its ELEMENT; with make that comes, as what isn't there. */
        private int watchedOne(boolean make) {
            if (names.trouble != 0 || names.key == 0) {
                return names.trouble != 0 ? 0 : names.found;
            }
            int e = names.elementOf(names.found, names.key);
            if (make) {
                store.set(names.found, STATE, IS_ARRAY);
                e = e == 0 ? names.newElement(names.found, names.key) : e;
            }
            return e;
        }

        private void changeWatches(boolean adds) {
            int acts = acts(core.word(4));
            if (acts == 0) {
                return;
            }
            int v = watchedOne(adds);
            if (adds) {
                names.addWatch(v, acts, core.word(5));
            } else if (v != 0) {
                names.removeWatch(v, acts, core.word(5));
                if (names.key != 0) {
                    names.tidyElement(names.found, v);
                }
            }
        }

        /** The acts that a list tells; 0 with the ERROR. */
        private int acts(int text) {
            int bottom = core.top;
            int many = lists.pushAll(text);
            int acts = 0;
            boolean fine = many > 0;
            for (int i = bottom; i < bottom + many; i++) {
                int word = core.at(i);
                int act = store.is(word, "read") ? READ : store.is(word, "write") ? WRITE : store.is(word, "unset") ? UNSET : 0;
                fine = fine && act != 0;
                acts |= act;
            }
            core.top = bottom;
            if (many >= 0 && !fine) {
                core.fail("bad ops: ", text);
            }
            return fine ? acts : 0;
        }

        private void giveWatches(int v) {
            int bottom = core.top;
            for (int w = store.get(v, WATCHES); w != 0; w = store.get(w, NEXT_ONE)) {
                int acts = store.get(w, ACTS);
                store.open();
                store.putWord((acts & READ) != 0 ? "read" : "");
                store.putWord((acts & WRITE) != 0 ? (acts & READ) != 0 ? " write" : "write" : "");
                store.putWord((acts & UNSET) != 0 ? (acts & (READ | WRITE)) != 0 ? " unset" : "unset" : "");
                int place = core.top;
                core.push(core.close());
                core.push(store.get(w, NAME));
                core.push(lists.popWritten(place));
            }
            core.give(lists.popWritten(bottom));
        }
    }

    /** The commands about lists and DICTIONARIES. */
    private static final class ListCommands {
        private final Control control;
        private final Core core;
        private final Store store;
        private final Letters letters;
        private final Lists lists;
        private final Names names;
        private boolean byNumber;
        private boolean downwards;

        private ListCommands(Control control, Lists lists) {
            this.control = control;
            this.core = control.core;
            this.store = core.store;
            this.letters = lists.letters;
            this.lists = lists;
            this.names = control.names;
        }

        private void callList(Told command) {
            switch (command) {
                case LIST: core.give(lists.written(core.args + 1, core.words - 1)); break;
                case LLENGTH: giveLength(); break;
                case LINDEX: lindex(); break;
                case LSET: lset(); break;
                case LRANGE: lrange(); break;
                case LINSERT: linsert(); break;
                case LREPLACE: lreplace(); break;
                case LREVERSE: lreverse(); break;
                case LREPEAT: lrepeat(); break;
                case CONCAT: core.give(lists.concat(1)); break;
                case JOIN: join(); break;
                case SPLIT: split(); break;
                case LASSIGN: lassign(); break;
                case LSEARCH: lsearch(); break;
                default: lsort(); break;
            }
        }

        private void giveLength() {
            int many = lists.elements(core.word(1));
            if (many >= 0) {
                core.giveNumber(many);
            }
        }

        private void lindex() {
            int text = core.word(1);
            for (int i = 2; i < core.words; i++) {
                if (i > 2 && !core.spend(store.size(text))) {
                    return;
                }
                int many = lists.elements(text);
                if (many < 0 || !lists.takeIndex(core.word(i), many)) {
                    return;
                }
                text = lists.elementAt(text, lists.place);
            }
            core.give(text);
        }

        private void lset() {
            int name = core.word(1);
            int last = core.words - 1;
            int value = core.word(last);
            if (last > 2) {
                value = names.read(name);
                if (value == 0 || !pushWay(value, last)) {
                    return;
                }
                value = setOnWay(last);
            }
            if (!core.halted && names.write(name, value)) {
                names.answer(name);
            }
        }

        /** Pushes the lists on the way to an element, and where it goes on in each; false with the ERROR. */
        private boolean pushWay(int value, int last) {
            int text = value;
            int bottom = core.top;
            for (int i = 2; i < last; i++) {
                if (i > 2 && !core.spend(store.size(text))) {
                    return false;
                }
                int many = lists.elements(text);
                boolean fine = many >= 0 && lists.takeIndex(core.word(i), many);
                if (fine && (lists.place < 0 || lists.place >= many)) {
                    fine = core.fail("outside: ", core.word(i));
                }
                if (!fine) {
                    core.top = bottom;
                    return false;
                }
                core.push(text);
                core.push((int) lists.place);
                text = lists.elementAt(text, lists.place);
            }
            return true;
        }

        /** Writes the lists on the way anew, the innermost first. */
        private int setOnWay(int last) {
            int text = core.word(last);
            for (int i = 2; i < last; i++) {
                int place = core.pop();
                int list = core.pop();
                int bottom = core.top;
                lists.pushAll(list);
                core.put(bottom + place, text);
                text = lists.popWritten(bottom);
                core.spend(store.size(text));
            }
            return text;
        }

        /** Takes two words as the first and last of so many things, as far as these are there; false with the ERROR. */
        private boolean pushRange(int word, int many) {
            if (!lists.takeIndex(core.word(word), many)) {
                return false;
            }
            int from = (int) Math.max(0, Math.min(lists.place, many));
            if (!lists.takeIndex(core.word(word + 1), many)) {
                return false;
            }
            core.push(from);
            core.push((int) Math.max(-1, Math.min(lists.place, many - 1)));
            return true;
        }

        private void lrange() {
            int bottom = core.top;
            int many = lists.elements(core.word(1));
            if (many < 0 || !pushRange(2, many)) {
                return;
            }
            int to = core.pop();
            int from = core.pop();
            lists.pushAll(core.word(1));
            core.give(from > to ? EMPTY : lists.written(bottom + from, to - from + 1));
            core.top = bottom;
        }

        private void linsert() {
            int many = lists.elements(core.word(1));
            if (many < 0 || !lists.takeIndex(core.word(2), many + 1)) {
                return;
            }
            int place = (int) Math.max(0, Math.min(lists.place, many));
            replace(place, place - 1, many, 3);
        }

        private void lreplace() {
            int many = lists.elements(core.word(1));
            if (many < 0 || !pushRange(2, many)) {
                return;
            }
            int to = core.pop();
            int from = core.pop();
            replace(from, to, many, 4);
        }

        /** Answers the list with the words from first on in place of elements from .. to. */
        private void replace(int from, int to, int many, int first) {
            int bottom = core.top;
            lists.pushAll(core.word(1));
            int result = core.top;
            for (int i = 0; i < from; i++) {
                core.push(core.at(bottom + i));
            }
            for (int i = first; i < core.words; i++) {
                core.push(core.word(i));
            }
            for (int i = Math.max(from, to + 1); i < many; i++) {
                core.push(core.at(bottom + i));
            }
            core.give(lists.popWritten(result));
            core.top = bottom;
        }

        private void lreverse() {
            int bottom = core.top;
            int many = lists.pushAll(core.word(1));
            for (int i = 0; i < many / 2; i++) {
                int text = core.at(bottom + i);
                core.put(bottom + i, core.at(bottom + many - 1 - i));
                core.put(bottom + many - 1 - i, text);
            }
            if (many >= 0) {
                core.give(lists.popWritten(bottom));
            }
        }

        private void lrepeat() {
            if (!letters.isInteger(core.word(1))) {
                core.fail("no number: ", core.word(1));
                return;
            }
            long times = letters.number;
            if (times < 0) {
                core.fail("bad count: ", core.word(1));
                return;
            }
            store.open();
            boolean first = true;
            for (long i = 0; i < times && core.words > 2 && !store.over; i++) {
                for (int k = 2; k < core.words; k++) {
                    if (!first) {
                        store.put(BLANK);
                    }
                    lists.putElement(core.word(k), 0, store.size(core.word(k)), first);
                    first = false;
                }
            }
            core.give(core.close());
        }

        private void join() {
            int bottom = core.top;
            int many = lists.pushAll(core.word(1));
            if (many < 0) {
                return;
            }
            store.open();
            for (int i = 0; i < many && !store.over; i++) {
                if (i > 0 && core.words > 2) {
                    store.putText(core.word(2));
                } else if (i > 0) {
                    store.put(BLANK);
                }
                store.putText(core.at(bottom + i));
            }
            core.top = bottom;
            core.give(core.close());
        }

        private void split() {
            int text = core.word(1);
            int size = store.size(text);
            boolean each = core.words > 2 && store.size(core.word(2)) == 0;
            store.open();
            int from = 0;
            for (int i = 0; i <= size && size > 0 && !store.over; i++) {
                boolean ends = each ? i > 0 : i == size || isSeparator(store.letter(text, i));
                if (ends) {
                    if (from > 0) {
                        store.put(BLANK);
                    }
                    lists.putElement(text, from, i, from == 0);
                    from = each ? i : i + 1;
                }
            }
            core.give(core.close());
        }

        private boolean isSeparator(int c) {
            if (core.words < 3) {
                return Letters.isWhite(c);
            }
            boolean found = false;
            for (int i = 0; i < store.size(core.word(2)); i++) {
                found = found || store.letter(core.word(2), i) == c;
            }
            return found;
        }

        private void lassign() {
            int bottom = core.top;
            int many = lists.pushAll(core.word(1));
            if (many < 0) {
                return;
            }
            int given = core.words - 2;
            for (int i = 0; i < given; i++) {
                if (!names.write(core.word(i + 2), i < many ? core.at(bottom + i) : EMPTY)) {
                    core.top = bottom;
                    return;
                }
            }
            core.give(lists.written(bottom + given, Math.max(0, many - given)));
            core.top = bottom;
        }

        private void lsearch() {
            boolean exact = core.isWord(1, "-exact");
            if (core.words == 4 && !exact && !core.isWord(1, "-glob")) {
                core.failArguments();
                return;
            }
            exact = exact && core.words == 4;
            int pattern = core.word(core.words - 1);
            int bottom = core.top;
            int many = lists.pushAll(core.word(core.words - 2));
            int place = -1;
            for (int i = 0; i < many && place < 0; i++) {
                int element = core.at(bottom + i);
                if (exact ? store.same(element, pattern) : letters.fits(pattern, element)) {
                    place = i;
                }
            }
            core.top = bottom;
            if (many >= 0) {
                core.giveNumber(place);
            }
        }

        // ---- sorting

        private void lsort() {
            byNumber = false;
            downwards = false;
            boolean once = false;
            for (int i = 1; i < core.words - 1; i++) {
                if (!byNumber && core.isWord(i, "-integer")) {
                    byNumber = true;
                } else if (!downwards && core.isWord(i, "-decreasing")) {
                    downwards = true;
                } else if (!once && core.isWord(i, "-unique")) {
                    once = true;
                } else {
                    core.failArguments();
                    return;
                }
            }
            int bottom = core.top;
            int many = lists.pushAll(core.word(core.words - 1));
            if (many < 0 || byNumber && !areNumbers(bottom, many)) {
                core.top = bottom;
                return;
            }
            sort(bottom, many);
            if (once) {
                keepOnce(bottom, many);
            }
            core.give(lists.popWritten(bottom));
        }

        private boolean areNumbers(int bottom, int many) {
            for (int i = bottom; i < bottom + many; i++) {
                if (!letters.isInteger(core.at(i))) {
                    return core.fail("no number: ", core.at(i));
                }
            }
            return true;
        }

        private int order(int a, int b) {
            int order = 0;
            if (byNumber && letters.isInteger(a)) {
                long first = letters.number;
                order = letters.isInteger(b) ? Long.compare(first, letters.number) : 0;
            } else {
                order = letters.compare(a, b);
            }
            return downwards ? -order : order;
        }

        /** Merges longer and longer rows, so that equal ones stay as they stand. */
        private void sort(int bottom, int many) {
            for (int i = 0; i < many; i++) {
                core.push(0);
            }
            for (int width = 1; width < many; width *= 2) {
                for (int from = 0; from < many; from += 2 * width) {
                    merge(bottom, many, from, width);
                }
                for (int i = 0; i < many; i++) {
                    core.put(bottom + i, core.at(bottom + many + i));
                }
            }
            core.top = bottom + many;
        }

        private void merge(int bottom, int many, int from, int width) {
            int middle = Math.min(many, from + width);
            int end = Math.min(many, from + 2 * width);
            int a = from;
            int b = middle;
            for (int i = from; i < end; i++) {
                boolean first = b >= end || a < middle && order(core.at(bottom + a), core.at(bottom + b)) <= 0;
                core.put(bottom + many + i, core.at(bottom + (first ? a : b)));
                a += first ? 1 : 0;
                b += first ? 0 : 1;
            }
        }

        private void keepOnce(int bottom, int many) {
            int end = bottom;
            for (int i = bottom; i < bottom + many; i++) {
                boolean last = i == bottom + many - 1 || order(core.at(i), core.at(i + 1)) != 0;
                if (last) {
                    core.put(end, core.at(i));
                    end++;
                }
            }
            core.top = end;
        }

        // ---- dict

        private void callDictionary(Told command) {
            switch (command) {
                case DICT_CREATE: create(); break;
                case DICT_GET: get(true); break;
                case DICT_EXISTS: get(false); break;
                case DICT_SET: change(core.words - 1, false); break;
                case DICT_UNSET: change(core.words, true); break;
                case DICT_INCR: changeOne(true); break;
                case DICT_LAPPEND: changeOne(false); break;
                case DICT_KEYS: giveKeys(); break;
                case DICT_VALUES: giveValues(); break;
                case DICT_SIZE: giveSize(); break;
                case DICT_MERGE: merge(); break;
                default: startFor(); break;
            }
        }

        private void create() {
            if (core.words % 2 != 0) {
                core.failArguments();
                return;
            }
            int bottom = core.top;
            for (int i = 2; i < core.words; i++) {
                core.push(core.word(i));
            }
            lists.mergePairs(bottom, core.top - bottom);
            core.give(lists.popWritten(bottom));
        }

        /** The value of a key; 0 if it isn't there, -1 with the ERROR if the text is no DICTIONARY. */
        private int valueOf(int text, int key) {
            int bottom = core.top;
            int many = lists.pushPairs(text);
            int place = many < 0 ? -1 : lists.findKey(bottom, bottom + many, key);
            int value = many < 0 ? -1 : place < 0 ? 0 : core.at(place + 1);
            core.top = bottom;
            return value;
        }

        private void get(boolean wanted) {
            int text = core.word(2);
            for (int i = 3; i < core.words; i++) {
                if (i > 3 && !core.spend(store.size(text))) {
                    return;
                }
                int value = valueOf(text, core.word(i));
                if (value == 0 && wanted) {
                    core.fail("no key: ", core.word(i));
                } else if (value == 0) {
                    core.giveTruth(false);
                }
                if (value <= 0) {
                    return;
                }
                text = value;
            }
            if (!wanted) {
                core.giveTruth(true);
            } else if (core.words > 3) {
                core.give(text);
            } else {
                giveWritten(text);
            }
        }

        private void giveWritten(int text) {
            int bottom = core.top;
            if (lists.pushPairs(text) >= 0) {
                core.give(lists.popWritten(bottom));
            }
        }

        /** What a name has, read, or no letters if it isn't there; 0 with the ERROR. */
        private int valueOrNone(int name) {
            if (names.isThere(name)) {
                return names.read(name);
            }
            if (names.trouble == Names.NO_ROOM) {
                names.failRoom(names.base);
                return 0;
            }
            return EMPTY;
        }

        /** Sets or unsets by the keys that stand at words 3 .. end. */
        private void change(int end, boolean unset) {
            int name = core.word(2);
            int text = valueOrNone(name);
            if (text == 0) {
                return;
            }
            int bottom = core.top;
            for (int i = 3; i < end; i++) {
                core.push(text);
                boolean last = i == end - 1;
                int value = valueOf(text, core.word(i));
                if (value == 0 && unset && !last) {
                    core.fail("no key: ", core.word(i));
                }
                if (value < 0 || value == 0 && unset && !last) {
                    core.top = bottom;
                    return;
                }
                text = value == 0 ? EMPTY : value;
                if (!last && !core.spend(store.size(text))) {
                    return;
                }
            }
            int value = unset ? 0 : core.word(end);
            for (int i = end - 1; i >= 3; i--) {
                value = withKey(core.pop(), core.word(i), value);
                core.spend(store.size(value));
            }
            finish(name, value);
        }

        /** A DICTIONARY with another value for a key, or without it if that is 0. */
        private int withKey(int text, int key, int value) {
            int bottom = core.top;
            int many = lists.pushPairs(text);
            int place = lists.findKey(bottom, bottom + many, key);
            if (place >= 0 && value != 0) {
                core.put(place + 1, value);
            } else if (place >= 0) {
                for (int i = place; i < core.top - 2; i++) {
                    core.put(i, core.at(i + 2));
                }
                core.top -= 2;
            } else if (value != 0) {
                core.push(key);
                core.push(value);
            }
            return lists.popWritten(bottom);
        }

        private void finish(int name, int value) {
            if (!core.halted && names.write(name, value)) {
                names.answer(name);
            }
        }

        private void changeOne(boolean number) {
            int name = core.word(2);
            int text = valueOrNone(name);
            int old = text == 0 ? -1 : valueOf(text, core.word(3));
            if (old < 0) {
                return;
            }
            int value = number ? raised(old) : longer(old);
            if (value == 0) {
                return;
            }
            text = withKey(text, core.word(3), value);
            if (core.spend(store.size(text))) {
                finish(name, text);
            }
        }

        private int raised(int old) {
            return control.runner.nameCommands.raised(old, old == 0, 4);
        }

        private int longer(int old) {
            int value = old == 0 ? EMPTY : old;
            if (core.words > 4) {
                value = control.runner.nameCommands.longerList(value, 4);
                core.spend(store.size(value));
            }
            return value;
        }

        /** Pushes the pairs of the DICTIONARY in word 2; -1 with the ERROR. */
        private void giveKeys() {
            int bottom = core.top;
            int many = lists.pushPairs(core.word(2));
            if (many < 0) {
                return;
            }
            int end = bottom;
            for (int i = bottom; i < bottom + many; i += 2) {
                if (core.words < 4 || letters.fits(core.word(3), core.at(i))) {
                    core.put(end, core.at(i));
                    end++;
                }
            }
            core.top = end;
            core.give(lists.popWritten(bottom));
        }

        private void giveValues() {
            int bottom = core.top;
            int many = lists.pushPairs(core.word(2));
            if (many < 0) {
                return;
            }
            for (int i = 0; i < many / 2; i++) {
                core.put(bottom + i, core.at(bottom + 2 * i + 1));
            }
            core.top = bottom + many / 2;
            core.give(lists.popWritten(bottom));
        }

        private void giveSize() {
            int bottom = core.top;
            int many = lists.pushPairs(core.word(2));
            core.top = bottom;
            if (many >= 0) {
                core.giveNumber(many / 2);
            }
        }

        private void merge() {
            int bottom = core.top;
            for (int i = 2; i < core.words; i++) {
                if (lists.pushPairs(core.word(i)) < 0) {
                    core.top = bottom;
                    return;
                }
            }
            lists.mergePairs(bottom, core.top - bottom);
            core.give(lists.popWritten(bottom));
        }

        private void startFor() {
            int many = lists.elements(core.word(2));
            if (many < 0) {
                return;
            }
            if (many != 2) {
                core.fail("no names");
                return;
            }
            int bottom = core.top;
            if (lists.pushPairs(core.word(3)) >= 0) {
                core.put(core.args + 3, lists.popWritten(bottom));
                control.startEach(2, 0);
            }
        }
    }

    /** The commands about letters. */
    private static final class LetterCommands {
        private final Core core;
        private final Store store;
        private final Letters letters;
        private final Lists lists;

        private LetterCommands(Runner runner, Lists lists) {
            this.core = runner.core;
            this.store = core.store;
            this.letters = lists.letters;
            this.lists = lists;
        }

        private void call(Told command) {
            int a = core.word(2);
            int b = core.word(3);
            switch (command) {
                case PUTS: puts(); break;
                case STRING_LENGTH: core.giveNumber(store.size(a)); break;
                case STRING_INDEX: index(a, b); break;
                case STRING_RANGE: range(a); break;
                case STRING_FIRST: core.giveNumber(find(a, b, 1)); break;
                case STRING_LAST: core.giveNumber(find(a, b, -1)); break;
                case STRING_COMPARE: core.giveNumber(letters.compare(a, b)); break;
                case STRING_EQUAL: core.giveTruth(store.same(a, b)); break;
                case STRING_MATCH: core.giveTruth(letters.fits(a, b)); break;
                case STRING_MAP: map(a, b); break;
                case STRING_REPEAT: repeat(a, b); break;
                case STRING_REVERSE: reverse(a); break;
                case STRING_TOLOWER: changeCase(a, false); break;
                case STRING_TOUPPER: changeCase(a, true); break;
                case STRING_TRIM: trim(a, true, true); break;
                case STRING_TRIMLEFT: trim(a, true, false); break;
                case STRING_TRIMRIGHT: trim(a, false, true); break;
                case STRING_CAT: cat(); break;
                default: isOf(a, b); break;
            }
        }

        private void puts() {
            boolean line = core.words == 2;
            if (!line && !core.isWord(1, "-nonewline")) {
                core.failArguments();
                return;
            }
            int text = core.word(core.words - 1);
            for (int i = 0; i < store.size(text); i++) {
                core.print(store.letter(text, i));
            }
            if (line) {
                core.print(LINE);
            }
        }

        private void index(int text, int place) {
            int size = store.size(text);
            if (lists.takeIndex(place, size)) {
                boolean inside = lists.place >= 0 && lists.place < size;
                core.give(inside ? store.part(text, (int) lists.place, (int) lists.place + 1) : EMPTY);
            }
        }

        private void range(int text) {
            int size = store.size(text);
            if (!lists.takeIndex(core.word(3), size)) {
                return;
            }
            int from = (int) Math.max(0, Math.min(lists.place, size));
            if (!lists.takeIndex(core.word(4), size)) {
                return;
            }
            int to = (int) Math.max(-1, Math.min(lists.place, size - 1));
            core.give(from > to ? EMPTY : store.part(text, from, to + 1));
        }

        /** Where a text stands in another one, first or last; -1 if it doesn't. */
        private int find(int part, int text, int step) {
            int last = store.size(text) - store.size(part);
            int i = step > 0 ? 0 : last;
            while (store.size(part) > 0 && i >= 0 && i <= last) {
                if (store.samePart(part, text, i, i + store.size(part))) {
                    return i;
                }
                i += step;
            }
            return -1;
        }

        private void map(int pairs, int text) {
            int bottom = core.top;
            int many = lists.pushAll(pairs);
            if (many % 2 != 0) {
                if (many > 0) {
                    core.fail("no dictionary");
                }
                core.top = bottom;
                return;
            }
            store.open();
            int size = store.size(text);
            int i = 0;
            while (i < size && !store.over) {
                int place = keyAt(bottom, many, text, i);
                if (place < 0) {
                    store.put(store.letter(text, i));
                    i++;
                } else {
                    store.putText(core.at(place + 1));
                    i += Math.max(1, store.size(core.at(place)));
                }
            }
            core.top = bottom;
            core.give(core.close());
        }

        /** Where the first key stands that stands in a text at i; -1 if none does. */
        private int keyAt(int bottom, int many, int text, int i) {
            for (int place = bottom; place < bottom + many; place += 2) {
                int size = store.size(core.at(place));
                if (size > 0 && store.samePart(core.at(place), text, i, i + size)) {
                    return place;
                }
            }
            return -1;
        }

        private void repeat(int text, int times) {
            if (!letters.isInteger(times)) {
                core.fail("no number: ", times);
                return;
            }
            store.open();
            for (long i = 0; i < letters.number && store.size(text) > 0 && !store.over; i++) {
                store.putText(text);
            }
            core.give(core.close());
        }

        private void reverse(int text) {
            store.open();
            for (int i = store.size(text) - 1; i >= 0; i--) {
                store.put(store.letter(text, i));
            }
            core.give(core.close());
        }

        private void changeCase(int text, boolean upper) {
            store.open();
            for (int i = 0; i < store.size(text); i++) {
                int c = store.letter(text, i);
                boolean changes = upper ? Letters.isLower(c) : Letters.isUpper(c);
                store.put(changes ? c ^ 32 : c);
            }
            core.give(core.close());
        }

        private void trim(int text, boolean left, boolean right) {
            int from = 0;
            int to = store.size(text);
            while (left && from < to && isTrimmed(store.letter(text, from))) {
                from++;
            }
            while (right && to > from && isTrimmed(store.letter(text, to - 1))) {
                to--;
            }
            core.give(store.part(text, from, to));
        }

        private boolean isTrimmed(int c) {
            if (core.words < 4) {
                return Letters.isWhite(c);
            }
            boolean found = false;
            for (int i = 0; i < store.size(core.word(3)); i++) {
                found = found || store.letter(core.word(3), i) == c;
            }
            return found;
        }

        private void cat() {
            store.open();
            for (int i = 2; i < core.words; i++) {
                store.putText(core.word(i));
            }
            core.give(core.close());
        }

        private void isOf(int kind, int text) {
            if (store.is(kind, "integer")) {
                core.giveTruth(letters.isInteger(text));
            } else if (store.is(kind, "boolean")) {
                core.giveTruth(letters.truth(text) >= 0);
            } else if (store.is(kind, "list")) {
                lists.begin(text, 0);
                while (lists.next()) {
                    lists.fault = 0;
                }
                core.giveTruth(lists.fault == 0);
            } else {
                areAll(kind, text);
            }
        }

        private void areAll(int kind, int text) {
            boolean alnum = store.is(kind, "alnum");
            boolean alpha = store.is(kind, "alpha");
            boolean lower = alnum || alpha || store.is(kind, "lower");
            boolean upper = alnum || alpha || store.is(kind, "upper");
            boolean digit = alnum || store.is(kind, "digit");
            boolean space = store.is(kind, "space");
            if (!lower && !upper && !digit && !space) {
                core.fail("no such: ", kind);
                return;
            }
            boolean all = true;
            for (int i = 0; i < store.size(text); i++) {
                int c = store.letter(text, i);
                all = all && (lower && Letters.isLower(c) || upper && Letters.isUpper(c) || digit && Letters.isDigit(c)
                    || space && Letters.isWhite(c));
            }
            core.giveTruth(all);
        }
    }
}
