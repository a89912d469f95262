import java.util.Arrays;

/**
 * A house of commands: scripts are cut, their commands evaluated, and all that is known is a row of letters.
 *
 * Scripts may stand a hundred deep and coroutines stop anywhere, so nothing of an evaluation stands on Java's own
 * stack: all of it lies on one row of numbers (Core.stack), a frame above the other, with no place told but by its
 * distance from its frame. A coroutine that stops is a piece of that row, laid aside. Only WATCHES, in which nothing
 * may stop and of which the document lets ten stand within one another, are run by a call of the runner in itself.
 */
public final class CommandHouse {
    public static final int NONE = -1;

    // The document's limits.
    private static final int TAPE_LIMIT = 6000;
    private static final int OUTPUT_LIMIT = 3000;
    private static final int WORK_LIMIT = 30000;
    private static final int USED_LIMIT = 60000;
    private static final int TEXT_LIMIT = 40000;
    private static final int DEEPEST = 100;
    private static final int NESTED = 50;
    private static final int WATCHES_LIMIT = 10;
    private static final int RUNNING_LIMIT = 20;
    // Far above the turns that 30000 of WORK can ask for.
    private static final int TURNS = 100000000;

    // How long the rows of the house are at first, how long at most, and what one command may need of them at most.
    // A row that is full becomes four times as long. A house holds what 90000 of WORK have made, before it is FULL: of
    // that, each makes no more than 8 numbers on the stack, 12 cells (a formal), 4 letters and half a text that stay.
    private static final int STACK_FIRST = 3600;
    private static final int STACK_MOST = 900000;
    private static final int LETTERS_FIRST = 12500;
    private static final int LETTERS_MOST = 800000;
    private static final int LETTERS_NEED = 300000;
    private static final int TEXTS_FIRST = 800;
    private static final int TEXTS_MOST = 200000;
    private static final int TEXTS_NEED = 100000;
    private static final int RECORDS_FIRST = 450;
    private static final int RECORDS_MOST = 115000;
    private static final int RECORDS_NEED = 21000;
    private static final int TOKENS_FIRST = 512;
    // An expression of 30000 letters has no more: three numbers for an operand, two for an operator.
    private static final int TOKENS_MOST = 90000;

    // Letters that have a name in the document.
    private static final int TAB = 9;
    private static final int LINE = 10;
    private static final int BLANK = 32;
    private static final String SPACES = " \t\13\f\r";
    private static final String DIGITS = "0123456789abcdefABCDEF";
    // Letters that stand for others behind a \, and these.
    private static final String ESCAPES = "abfnrtv";
    private static final String ESCAPED = "\7\b\f\n\r\t\13";

    // Texts and records are numbers far above all places and sizes, so that a row of numbers shows what it leads to.
    private static final int TEXT = 1 << 29;
    private static final int RECORD = 1 << 30;
    private static final int EMPTY = TEXT;

    // A text's cells.
    private static final int SPAN = 5;
    private static final int LENGTH = 1;
    private static final int AFTER = 2;
    private static final int REACHED = 3;
    private static final int LISTED = 4;

    // A record's cells. What several kinds have stands at one place.
    private static final int CELLS = 12;
    private static final int CHAIN = 1;
    private static final int NAME = 2;
    private static final int NEXT_ONE = 3;
    private static final int VARIABLES = 4;
    private static final int ROOM = 5;
    // of a room
    private static final int CHILDREN = 6;
    private static final int COMMANDS = 7;
    // of a variable; of a LINK the VALUE is the INDEX of the ELEMENT that it leads to, or 0
    private static final int STATE = 4;
    private static final int VALUE_OF = 5;
    private static final int TARGET = 6;
    private static final int FIRST = 7;
    private static final int LAST = 8;
    private static final int WATCHES = 9;
    private static final int BUSY = 10;
    private static final int OWN = 11;
    // of a WATCH, its command being its NAME
    private static final int ACTS = 4;
    private static final int REMOVED = 5;
    // of a command
    private static final int TYPE = 4;
    private static final int FORMALS = 6;
    private static final int BODY = 7;
    private static final int MANY_FORMALS = 8;
    private static final int IS_RUNNING = 10;
    private static final int OUTER = 11;
    // of a level
    private static final int NUMBER = 6;
    private static final int BELOW = 7;
    private static final int LAST_ONE = 8;
    private static final int CALLED_AT = 9;
    private static final int OWNER = 10;
    // of some formals, name and default by turns
    private static final int PAIRS = 4;

    // The kinds of records.
    private static final int A_ROOM = 1;
    private static final int A_VARIABLE = 2;
    private static final int A_WATCH = 3;
    private static final int A_COMMAND = 4;
    private static final int A_LEVEL = 5;
    private static final int SOME_FORMALS = 6;

    // What a variable is.
    private static final int NOT_THERE = 0;
    private static final int HAS_VALUE = 1;
    private static final int IS_ARRAY = 2;
    private static final int IS_LINK = 3;

    // What a variable is BUSY with: an act by its name is going on; its own WATCHES are being done.
    private static final int IN_ACT = 1;
    private static final int IN_WATCHES = 2;

    // The acts that WATCHES are for.
    private static final int READ = 1;
    private static final int WRITE = 2;
    private static final int UNSET = 4;

    // The types of commands that no one of Told is.
    private static final int PROCEDURE = -1;
    private static final int COROUTINE = -2;

    // The codes.
    private static final int FINE = 0;
    private static final int ERROR = 1;
    private static final int RETURN = 2;
    private static final int BREAK = 3;
    private static final int CONTINUE = 4;

    // What the runner does next. Calls stay shallow by this: what is to be done is told, not called.
    private static final int DO_RESUME = 0;
    private static final int DO_TOKEN = 1;
    private static final int DO_NEXT = 2;
    private static final int DO_COMMAND = 3;
    private static final int DO_NAMES = 4;
    private static final int DO_LISTS = 5;
    private static final int DO_DICTIONARY = 6;
    private static final int DO_LETTERS = 7;
    private static final int DO_CONTROL = 8;
    private static final int DO_CALL = 9;
    private static final int DO_SCRIPT = 10;
    private static final int DO_EXPRESSION = 11;
    private static final int DO_CUT = 12;
    private static final int DO_SUBST = 13;
    private static final int DO_ROUND = 14;
    private static final int DO_FAULT = 15;
    private static final int DO_WATCH = 16;
    private static final int DO_WORD = 17;
    private static final int DO_PART = 18;
    private static final int DO_READ = 19;
    private static final int DO_RUN = 20;
    private static final int DO_PAIR = 21;

    // A frame's places; those of letters that are cut; of an expression the next token is told in place of a place.
    private static final int KIND = 0;
    private static final int BACK = 1;
    private static final int DEPTH = 2;
    private static final int LEVEL = 3;
    private static final int HEADER = 4;
    private static final int SOURCE = 4;
    private static final int PLACE = 5;
    private static final int WORD_AT = 6;
    private static final int RUN_AT = 7;
    private static final int CODE = 8;
    // Told in place of where a word or a run of words begins.
    private static final int NONE_AT_HAND = -1;
    private static final int COMMAND_RUNS = -2;
    // Told among the words of a command: what stands next is a list, its elements are words.
    private static final int ELEMENTS_OF = -1;
    // Those of a command that goes on: its words stand just below its frame.
    private static final int WORDS = 4;
    private static final int STAGE = 5;
    private static final int ROUNDS = 6;
    private static final int KEYS = 7;
    private static final int GATHERS = 7;
    private static final int CURSORS = 8;
    private static final int KEPT_CODE = 6;
    private static final int KEPT_ANSWER = 7;
    private static final int KEPT_LEFT = 8;
    private static final int KEPT_THEN = 9;
    private static final int NEW_LEVEL = 5;
    private static final int WHO = 5;
    private static final int WATCHED_THEN = 6;
    private static final int FRAME_THEN = 7;
    private static final int COROUTINE_SIZE = 8;

    // The kinds of frames; those of commands that go on are the last.
    private static final int SCRIPT_FRAME = 1;
    private static final int BRACKET_FRAME = 2;
    private static final int EXPRESSION_FRAME = 3;
    private static final int SUBST_FRAME = 4;
    private static final int OPERAND_FRAME = 5;
    private static final int IF_FRAME = 6;
    private static final int WHILE_FRAME = 7;
    private static final int FOR_FRAME = 8;
    private static final int EACH_FRAME = 9;
    private static final int CATCH_FRAME = 10;
    private static final int TRY_FRAME = 11;
    private static final int CALL_FRAME = 12;
    private static final int ROOM_FRAME = 13;
    private static final int COROUTINE_FRAME = 14;
    private static final int PAIRS_FRAME = 15;

    // The tokens that expressions are cut into.
    private static final int T_FINISH = 0;
    private static final int T_RAW = 1;
    private static final int T_LETTERS = 2;
    private static final int T_UNARY = 3;
    private static final int T_BINARY = 4;
    private static final int T_FUNCTION = 5;
    private static final int T_AND = 6;
    private static final int T_OR = 7;
    private static final int T_TRUTH = 8;
    private static final int T_CHOOSE = 9;
    private static final int T_JUMP = 10;

    // The faults of cutting.
    private static final int MISSING_BRACE = 1;
    private static final int MISSING_QUOTE = 2;
    private static final int MISSING_BRACKET = 3;
    private static final int MISSING_PARENTHESIS = 4;
    private static final int BEHIND_BRACE = 5;
    private static final int BEHIND_QUOTE = 6;
    private static final int TOO_DEEP = 7;
    private static final int BAD_EXPRESSION = 8;

    // The operators and what else waits while an expression is cut; those between two operands are 16 times how much
    // they bind, and one more for each of the same.
    private static final int MINUS_AHEAD = 1;
    private static final int PLUS_AHEAD = 2;
    private static final int TILDE_AHEAD = 3;
    private static final int NOT_AHEAD = 4;
    private static final int PARENTHESIS = 5;
    private static final int QUESTION = 6;
    private static final int COLON = 7;
    private static final int ABS = 8;
    private static final int MIN = 9;
    private static final int MAX = 10;
    private static final int EITHER = 16;
    private static final int BOTH = 32;
    private static final int OR = 48;
    private static final int XOR = 64;
    private static final int AND = 80;
    private static final int IN = 96;
    private static final int NOT_IN = 97;
    private static final int SAME = 112;
    private static final int OTHER = 113;
    private static final int EQUAL = 128;
    private static final int UNEQUAL = 129;
    private static final int LESS = 144;
    private static final int GREATER = 145;
    private static final int AT_MOST = 146;
    private static final int AT_LEAST = 147;
    private static final int LEFT_SHIFT = 160;
    private static final int RIGHT_SHIFT = 161;
    private static final int PLUS = 176;
    private static final int MINUS = 177;
    private static final int TIMES = 192;
    private static final int DIVIDED = 193;
    private static final int MODULO = 194;
    private static final int POWER = 208;

    // How many words a command may have.
    private static final int ANY = Integer.MAX_VALUE;

    private static final Told[] ALL_TOLD = Told.values();

    private final byte[] tape = new byte[TAPE_LIMIT];
    private int fed;
    private byte[] result = new byte[256];
    private int resultSize;
    private int worked;
    private int began;
    private int used;
    private int fulls;
    private final Core core;
    private final Store store;
    private final Cutter cutter;
    private final Names names;
    private final Runner runner;

    public CommandHouse() {
        store = new Store();
        core = new Core(store);
        Lists lists = new Lists(core);
        cutter = new Cutter(store);
        names = new Names(core, lists);
        runner = new Runner(names, cutter, new Formula(core, cutter, lists));
        Control control = new Control(runner);
        names.runner = runner;
        runner.control = control;
        runner.nameCommands = new NameCommands(runner);
        runner.valueCommands = new ValueCommands(control);
        names.renew();
    }

    public int feed(int a, int b, int c, int d, int e) {
        if (fed + 20 > TAPE_LIMIT) {
            return NONE;
        }
        feedOne(a);
        feedOne(b);
        feedOne(c);
        feedOne(d);
        feedOne(e);
        return fed;
    }

    private void feedOne(int number) {
        for (int shift = 24; shift >= 0 && fed < TAPE_LIMIT; shift -= 8) {
            tape[fed] = (byte) (number >> shift);
            fed++;
        }
    }

    public int evaluate(int n) {
        if (n < 0 || n > fed) {
            return NONE;
        }
        core.begin();
        core.script = tapeText(n);
        core.scriptLevel = names.ground;
        core.task = DO_SCRIPT;
        fed = 0;
        runner.run(0);
        int ends = ending();
        keepResult(core.answer);
        core.rest();
        worked = core.work;
        began = core.begun;
        used += worked;
        if (used > USED_LIMIT) {
            used = 0;
            fulls++;
            names.renew();
        }
        return ends;
    }

    private int tapeText(int n) {
        store.open();
        for (int i = 0; i < n && i < TAPE_LIMIT; i++) {
            store.put(tape[i]);
        }
        return store.close();
    }

    /** How an evaluation ENDS, with its RESULT as the answer. */
    private int ending() {
        if (core.isHalted()) {
            runner.abandon();
            core.work = WORK_LIMIT;
            core.answer = EMPTY;
            return 2;
        }
        if (core.code == FINE || core.code == RETURN) {
            return 0;
        }
        if (core.code != ERROR) {
            core.fail("code ", core.number(core.code));
        }
        return 1;
    }

    private void keepResult(int text) {
        resultSize = store.size(text);
        if (resultSize > result.length) {
            result = new byte[Math.max(resultSize, Math.min(2 * result.length, TEXT_LIMIT))];
        }
        for (int i = 0; i < resultSize && i < result.length; i++) {
            result[i] = (byte) store.letter(text, i);
        }
    }

    public int complete(int n) {
        if (n < 0 || n > fed) {
            return NONE;
        }
        core.collect();
        int script = tapeText(n);
        int from = 0;
        int fault = 0;
        for (int i = 0; i <= n && fault == 0 && cutter.findCommand(script, from); i++) {
            cutter.pass(NONE);
            fault = cutter.fault;
            from = cutter.at;
        }
        return fault == 0 ? 1 : fault <= MISSING_PARENTHESIS ? 0 : 2;
    }

    public int told(int what, int i) {
        if (i < 0) {
            return NONE;
        }
        if (what == 0 && i < core.outputSize && i < OUTPUT_LIMIT) {
            return core.output[i] & 255;
        }
        if (what == 1 && i < resultSize && i < result.length) {
            return result[i] & 255;
        }
        return NONE;
    }

    public int sum(int what) {
        if (what != 0 && what != 1) {
            return NONE;
        }
        int all = 0;
        int size = what == 0 ? core.outputSize : resultSize;
        for (int i = 0; i < size; i++) {
            all = 31 * all + told(what, i);
        }
        return all;
    }

    public int count(int what) {
        switch (what) {
            case 0: return core.outputSize;
            case 1: return resultSize;
            case 2: return worked;
            case 3: return used;
            case 4: return fulls;
            case 5: return fed;
            case 6: return began;
            case 7: return names.coroutines;
            case 8: return names.rooms;
            case 9: return names.procedures;
            default: return NONE;
        }
    }

    /** The commands that the house knows by itself, in the document's order, then the words of families. */
    private enum Told {
        SET("", "set", DO_NAMES, 1, 2),
        INCR("", "incr", DO_NAMES, 1, 2),
        APPEND("", "append", DO_NAMES, 1, ANY),
        LAPPEND("", "lappend", DO_NAMES, 1, ANY),
        UNSET_NAMES("", "unset", DO_NAMES, 0, ANY),
        GLOBAL("", "global", DO_NAMES, 0, ANY),
        VARIABLE("", "variable", DO_NAMES, 1, ANY),
        UPVAR("", "upvar", DO_NAMES, 2, ANY),
        ARRAY("", "array", DO_COMMAND, 1, ANY),
        INFO("", "info", DO_COMMAND, 1, ANY),
        TRACE("", "trace", DO_COMMAND, 1, ANY),
        LIST("", "list", DO_LISTS, 0, ANY),
        LLENGTH("", "llength", DO_LISTS, 1, 1),
        LINDEX("", "lindex", DO_LISTS, 1, ANY),
        LSET("", "lset", DO_LISTS, 2, ANY),
        LRANGE("", "lrange", DO_LISTS, 3, 3),
        LINSERT("", "linsert", DO_LISTS, 2, ANY),
        LREPLACE("", "lreplace", DO_LISTS, 3, ANY),
        LREVERSE("", "lreverse", DO_LISTS, 1, 1),
        LREPEAT("", "lrepeat", DO_LISTS, 1, ANY),
        CONCAT("", "concat", DO_LISTS, 0, ANY),
        JOIN("", "join", DO_LISTS, 1, 2),
        SPLIT("", "split", DO_LISTS, 1, 2),
        LASSIGN("", "lassign", DO_LISTS, 1, ANY),
        LSEARCH("", "lsearch", DO_LISTS, 2, 3),
        LSORT("", "lsort", DO_LISTS, 1, 4),
        FOREACH("", "foreach", DO_CONTROL, 3, ANY),
        LMAP("", "lmap", DO_CONTROL, 3, ANY),
        DICT("", "dict", DO_COMMAND, 1, ANY),
        STRING("", "string", DO_COMMAND, 1, ANY),
        SUBST("", "subst", DO_CONTROL, 1, 1),
        PUTS("", "puts", DO_LETTERS, 1, 2),
        EVAL("", "eval", DO_CONTROL, 1, ANY),
        EXPR("", "expr", DO_CONTROL, 1, ANY),
        IF("", "if", DO_CONTROL, 2, ANY),
        WHILE("", "while", DO_CONTROL, 2, 2),
        FOR("", "for", DO_CONTROL, 4, 4),
        SWITCH("", "switch", DO_CONTROL, 2, ANY),
        CATCH("", "catch", DO_CONTROL, 1, 2),
        TRY("", "try", DO_CONTROL, 3, 3),
        ERROR_WITH("", "error", DO_CONTROL, 1, 1),
        BREAK_OFF("", "break", DO_CONTROL, 0, 0),
        GO_ON("", "continue", DO_CONTROL, 0, 0),
        RETURN_WITH("", "return", DO_CONTROL, 0, 5),
        UPLEVEL("", "uplevel", DO_CONTROL, 0, ANY),
        PROC("", "proc", DO_CONTROL, 3, 3),
        APPLY("", "apply", DO_CONTROL, 1, ANY),
        RENAME("", "rename", DO_CONTROL, 2, 2),
        NAMESPACE("", "namespace", DO_COMMAND, 1, ANY),
        COROUTINE_NEW("", "coroutine", DO_CONTROL, 2, ANY),
        YIELD("", "yield", DO_CONTROL, 0, 1),

        ARRAY_EXISTS("array", "exists", DO_NAMES, 1, 1),
        ARRAY_SET("array", "set", DO_NAMES, 2, 2),
        ARRAY_GET("array", "get", DO_NAMES, 1, 2),
        ARRAY_NAMES("array", "names", DO_NAMES, 1, 2),
        ARRAY_SIZE("array", "size", DO_NAMES, 1, 1),
        ARRAY_UNSET("array", "unset", DO_NAMES, 1, 2),
        INFO_EXISTS("info", "exists", DO_NAMES, 1, 1),
        INFO_LEVEL("info", "level", DO_NAMES, 0, 1),
        INFO_COMMANDS("info", "commands", DO_NAMES, 0, 1),
        INFO_PROCS("info", "procs", DO_NAMES, 0, 1),
        INFO_ARGS("info", "args", DO_NAMES, 1, 1),
        INFO_BODY("info", "body", DO_NAMES, 1, 1),
        INFO_COROUTINE("info", "coroutine", DO_NAMES, 0, 0),
        TRACE_ADD("trace", "add", DO_NAMES, 4, 4),
        TRACE_REMOVE("trace", "remove", DO_NAMES, 4, 4),
        TRACE_INFO("trace", "info", DO_NAMES, 2, 2),
        DICT_CREATE("dict", "create", DO_DICTIONARY, 0, ANY),
        DICT_GET("dict", "get", DO_DICTIONARY, 1, ANY),
        DICT_EXISTS("dict", "exists", DO_DICTIONARY, 2, ANY),
        DICT_SET("dict", "set", DO_DICTIONARY, 3, ANY),
        DICT_UNSET("dict", "unset", DO_DICTIONARY, 2, ANY),
        DICT_INCR("dict", "incr", DO_DICTIONARY, 2, 3),
        DICT_LAPPEND("dict", "lappend", DO_DICTIONARY, 2, ANY),
        DICT_KEYS("dict", "keys", DO_DICTIONARY, 1, 2),
        DICT_VALUES("dict", "values", DO_DICTIONARY, 1, 1),
        DICT_SIZE("dict", "size", DO_DICTIONARY, 1, 1),
        DICT_MERGE("dict", "merge", DO_DICTIONARY, 0, ANY),
        DICT_FOR("dict", "for", DO_DICTIONARY, 3, 3),
        STRING_LENGTH("string", "length", DO_LETTERS, 1, 1),
        STRING_INDEX("string", "index", DO_LETTERS, 2, 2),
        STRING_RANGE("string", "range", DO_LETTERS, 3, 3),
        STRING_FIRST("string", "first", DO_LETTERS, 2, 2),
        STRING_LAST("string", "last", DO_LETTERS, 2, 2),
        STRING_COMPARE("string", "compare", DO_LETTERS, 2, 2),
        STRING_EQUAL("string", "equal", DO_LETTERS, 2, 2),
        STRING_MATCH("string", "match", DO_LETTERS, 2, 2),
        STRING_MAP("string", "map", DO_LETTERS, 2, 2),
        STRING_REPEAT("string", "repeat", DO_LETTERS, 2, 2),
        STRING_REVERSE("string", "reverse", DO_LETTERS, 1, 1),
        STRING_TOLOWER("string", "tolower", DO_LETTERS, 1, 1),
        STRING_TOUPPER("string", "toupper", DO_LETTERS, 1, 1),
        STRING_TRIM("string", "trim", DO_LETTERS, 1, 2),
        STRING_TRIMLEFT("string", "trimleft", DO_LETTERS, 1, 2),
        STRING_TRIMRIGHT("string", "trimright", DO_LETTERS, 1, 2),
        STRING_CAT("string", "cat", DO_LETTERS, 0, ANY),
        STRING_IS("string", "is", DO_LETTERS, 2, 2),
        NAMESPACE_EVAL("namespace", "eval", DO_CONTROL, 1, ANY),
        NAMESPACE_CURRENT("namespace", "current", DO_CONTROL, 0, 0),
        NAMESPACE_EXISTS("namespace", "exists", DO_CONTROL, 1, 1),
        NAMESPACE_DELETE("namespace", "delete", DO_CONTROL, 1, 1),
        NAMESPACE_QUALIFIERS("namespace", "qualifiers", DO_CONTROL, 1, 1),
        NAMESPACE_TAIL("namespace", "tail", DO_CONTROL, 1, 1);

        private final String family;
        private final String text;
        private final int home;
        private final int least;
        private final int most;

        Told(String family, String text, int home, int least, int most) {
            this.family = family;
            this.text = text;
            this.home = home;
            this.least = least;
            this.most = most;
        }
    }

    /**
     * Texts and records, in rows that are used again: what a run makes is counted and never given back, so the house
     * keeps its own memory and collects it itself. Texts lie one behind the other in the order of their chain.
     */
    private static final class Store {
        private byte[] letters = new byte[LETTERS_FIRST];
        private int used;
        private int start;
        private boolean over;
        private boolean wasOver;
        private int[] spans = new int[SPAN * TEXTS_FIRST];
        private int texts;
        private int heldTexts;
        private int freeText;
        private int firstText;
        private int lastText;
        private int[] cells = new int[CELLS * RECORDS_FIRST];
        private int records;
        private int heldRecords;
        private int freeRecord;
        private int waiting;
        private long number;
        private int sweeps;

        private void clear() {
            sweeps++;
            used = 0;
            over = false;
            texts = 1;
            heldTexts = 0;
            freeText = 0;
            firstText = 0;
            lastText = 0;
            spans[0] = 0;
            spans[LENGTH] = 0;
            spans[LISTED] = 0;
            records = 0;
            heldRecords = 0;
            freeRecord = 0;
        }

        // ---- kinds of letters

        private static boolean isWhite(int c) {
            return c >= TAB && c <= 13 || c == BLANK;
        }

        private static boolean isSpace(int c) {
            return c >= TAB && c <= 13 && c != LINE || c == BLANK;
        }

        private static boolean isDigit(int c) {
            return c >= '0' && c <= '9';
        }

        private static boolean isUpper(int c) {
            return c >= 'A' && c <= 'Z';
        }

        private static boolean isLower(int c) {
            return c >= 'a' && c <= 'z';
        }

        private static boolean isNameLetter(int c) {
            return c >= 'a' && c <= 'z' || c >= 'A' && c <= 'Z' || c >= '0' && c <= '9' || c == '_';
        }

        // ---- texts that are there

        private int size(int text) {
            int t = text - TEXT;
            return t < 0 || t >= texts ? 0 : spans[SPAN * t + LENGTH];
        }

        /** A letter of a text; -1 outside of it. */
        private int letter(int text, int i) {
            int t = text - TEXT;
            if (t < 0 || t >= texts || i < 0 || i >= spans[SPAN * t + LENGTH]) {
                return -1;
            }
            return letters[spans[SPAN * t] + i] & 255;
        }

        /** What is known of a text as a list: one more than its elements; its fault, below 0; 0 for nothing. */
        private int listed(int text) {
            int t = text - TEXT;
            return t < 0 || t >= texts ? 0 : spans[SPAN * t + LISTED];
        }

        private void setListed(int text, int known) {
            int t = text - TEXT;
            if (t >= 0 && t < texts) {
                spans[SPAN * t + LISTED] = known;
            }
        }

        private boolean same(int a, int b) {
            int s = a - TEXT;
            int t = b - TEXT;
            if (s < 0 || s >= texts || t < 0 || t >= texts || spans[SPAN * s + LENGTH] != spans[SPAN * t + LENGTH]) {
                return false;
            }
            for (int i = 0; i < spans[SPAN * s + LENGTH]; i++) {
                if (letters[spans[SPAN * s] + i] != letters[spans[SPAN * t] + i]) {
                    return false;
                }
            }
            return true;
        }

        /** Whether a text is letters from .. to of another one. */
        private boolean samePart(int whole, int text, int from, int to) {
            int w = whole - TEXT;
            int t = text - TEXT;
            if (w < 0 || w >= texts || t < 0 || t >= texts || from < 0 || to > spans[SPAN * t + LENGTH]
                || spans[SPAN * w + LENGTH] != to - from) {
                return false;
            }
            int a = spans[SPAN * w] - from;
            int b = spans[SPAN * t];
            for (int i = from; i < to; i++) {
                if (letters[a + i] != letters[b + i]) {
                    return false;
                }
            }
            return true;
        }

        private boolean is(int text, String word) {
            int t = text - TEXT;
            if (t < 0 || t >= texts || spans[SPAN * t + LENGTH] != word.length()) {
                return false;
            }
            int a = spans[SPAN * t];
            for (int i = 0; i < word.length(); i++) {
                if (letters[a + i] != word.charAt(i)) {
                    return false;
                }
            }
            return true;
        }

        /** Whether letters from .. to of a text are a word. */
        private boolean isAt(int text, int from, int to, String word) {
            int t = text - TEXT;
            if (t < 0 || t >= texts || from < 0 || to > spans[SPAN * t + LENGTH] || to - from != word.length()) {
                return false;
            }
            for (int i = from; i < to; i++) {
                if (letters[spans[SPAN * t] + i] != word.charAt(i - from)) {
                    return false;
                }
            }
            return true;
        }

        private int compare(int a, int b) {
            int s = a - TEXT;
            int t = b - TEXT;
            if (s < 0 || s >= texts || t < 0 || t >= texts) {
                return 0;
            }
            int sizeA = spans[SPAN * s + LENGTH];
            int sizeB = spans[SPAN * t + LENGTH];
            for (int i = 0; i < sizeA && i < sizeB; i++) {
                int difference = (letters[spans[SPAN * s] + i] & 255) - (letters[spans[SPAN * t] + i] & 255);
                if (difference != 0) {
                    return difference < 0 ? -1 : 1;
                }
            }
            return Integer.compare(sizeA, sizeB);
        }

        /** Where a \ and the letter behind it, or the whole GAP, end. */
        private int pairEnd(int text, int i) {
            int t = text - TEXT;
            if (t < 0 || t >= texts || i < 0 || i + 1 >= spans[SPAN * t + LENGTH]) {
                return i + 1;
            }
            int start = spans[SPAN * t];
            int end = start + i + 2;
            int last = start + spans[SPAN * t + LENGTH];
            if (letters[end - 1] == LINE) {
                while (end < last && SPACES.indexOf((char) (letters[end] & 255)) >= 0) {
                    end++;
                }
            }
            return end - start;
        }

        /** Whether letters from .. to, as far as there are any, are an INTEGER, which number is then. */
        private boolean isInteger(int text, int from, int to) {
            int t = text - TEXT;
            if (t < 0 || t >= texts || from < 0) {
                return false;
            }
            int i = spans[SPAN * t] + from;
            int end = spans[SPAN * t] + Math.min(to, spans[SPAN * t + LENGTH]);
            boolean negative = i < end && letters[i] == '-';
            if (negative || i < end && letters[i] == '+') {
                i++;
            }
            int radix = 10;
            if (i + 1 < end && letters[i] == '0') {
                radix = letters[i + 1] == 'x' ? 16 : letters[i + 1] == 'b' ? 2 : letters[i + 1] == 'o' ? 8 : 10;
                i += radix == 10 ? 0 : 2;
            }
            // Below 0 all numbers have a place, also the least one.
            long least = negative ? Long.MIN_VALUE : -Long.MAX_VALUE;
            long value = 0;
            boolean fine = i < end;
            while (i < end && fine) {
                int digit = DIGITS.indexOf((char) (letters[i] & 255));
                digit -= digit > 15 ? 6 : 0;
                fine = digit >= 0 && digit < radix && value >= least / radix && value * radix >= least + digit;
                value = value * radix - digit;
                i++;
            }
            number = negative ? value : -value;
            return fine;
        }

        /** 1 for a truth, 0 for none, -1 for another text. */
        private int truth(int text) {
            if (isInteger(text, 0, ANY)) {
                return number == 0 ? 0 : 1;
            }
            if (is(text, "true") || is(text, "yes") || is(text, "on")) {
                return 1;
            }
            return is(text, "false") || is(text, "no") || is(text, "off") ? 0 : -1;
        }

        /** Whether a text fits a PATTERN: behind the latest * as few letters as can be are tried first. */
        private boolean fits(int pattern, int text) {
            int size = size(text);
            // Each letter is tried against each part of the pattern at most once behind each place.
            long most = (size + 1L) * (size(pattern) + 2L);
            int i = 0;
            int p = 0;
            int star = -1;
            int tried = 0;
            for (long turn = 0; turn <= most && i < size; turn++) {
                int behind = fitsOne(pattern, p, letter(text, i));
                if (letter(pattern, p) == '*') {
                    star = p;
                    tried = i;
                    p++;
                } else if (behind >= 0) {
                    p = behind;
                    i++;
                } else if (star >= 0) {
                    p = star + 1;
                    tried++;
                    i = tried;
                } else {
                    return false;
                }
            }
            while (p < size(pattern) && letter(pattern, p) == '*') {
                p++;
            }
            return i >= size && p >= size(pattern);
        }

        /** Where the part of a PATTERN at p ends if it fits the letter c; else -1. */
        private int fitsOne(int pattern, int p, int c) {
            int own = letter(pattern, p);
            int second = letter(pattern, p + 1);
            if (own == '\\' && second >= 0) {
                return second == c ? p + 2 : -1;
            }
            if (own != '[') {
                return own == c || own == '?' ? p + 1 : -1;
            }
            int size = size(pattern);
            int end = p + 1;
            while (end < size && letter(pattern, end) != ']') {
                end++;
            }
            boolean found = false;
            int i = p + 1;
            while (i < end && end < size) {
                int a = letter(pattern, i);
                int b = a;
                if (i + 2 < end && letter(pattern, i + 1) == '-') {
                    b = letter(pattern, i + 2);
                    i += 2;
                }
                found = found || c >= Math.min(a, b) && c <= Math.max(a, b);
                i++;
            }
            return found ? end + 1 : -1;
        }

        // ---- a text that is built, one at a time, behind all others

        private void open() {
            start = used;
            over = false;
        }

        private void put(int letter) {
            if (used >= letters.length && letters.length < LETTERS_MOST) {
                letters = Arrays.copyOf(letters, Math.min(LETTERS_MOST, 4 * letters.length));
            }
            if (used - start >= TEXT_LIMIT || used >= letters.length) {
                over = true;
                return;
            }
            letters[used] = (byte) letter;
            used++;
        }

        /** Letters a .. b of a text, as far as it has them. */
        private void putPart(int text, int a, int b) {
            int t = text - TEXT;
            if (t < 0 || t >= texts || a < 0) {
                return;
            }
            int many = Math.min(b, spans[SPAN * t + LENGTH]) - a;
            if (many <= 0) {
                return;
            }
            if (used + many > letters.length && letters.length < LETTERS_MOST) {
                letters = Arrays.copyOf(letters, Math.min(LETTERS_MOST, Math.max(4 * letters.length, used + many)));
            }
            if (many > TEXT_LIMIT - (used - start) || used + many > letters.length) {
                over = true;
                return;
            }
            System.arraycopy(letters, spans[SPAN * t] + a, letters, used, many);
            used += many;
        }

        private void putWord(String word) {
            int many = word.length();
            if (used + many > letters.length && letters.length < LETTERS_MOST) {
                letters = Arrays.copyOf(letters, Math.min(LETTERS_MOST, 4 * letters.length));
            }
            if (many > TEXT_LIMIT - (used - start) || used + many > letters.length) {
                over = true;
                return;
            }
            for (int i = 0; i < many; i++) {
                letters[used + i] = (byte) word.charAt(i);
            }
            used += many;
        }

        /** Letters from .. to with what \ stands for, which is often less: only what comes of them may be too long. */
        private void putEscaped(int text, int from, int to) {
            int t = text - TEXT;
            if (t < 0 || t >= texts || from < 0 || to > spans[SPAN * t + LENGTH]) {
                over = true;
                return;
            }
            int most = Math.min(used + to - from, start + TEXT_LIMIT);
            if (most > letters.length && letters.length < LETTERS_MOST) {
                letters = Arrays.copyOf(letters, Math.min(LETTERS_MOST, Math.max(4 * letters.length, most)));
            }
            most = Math.min(most, letters.length);
            int i = spans[SPAN * t] + from;
            int end = spans[SPAN * t] + to;
            while (i < end && !over) {
                int c = letters[i];
                i++;
                if (c == '\\' && i < end) {
                    c = letters[i];
                    i++;
                    int radix = c == 'x' ? 16 : 8;
                    int place = c == 'x' ? i : i - 1;
                    int last = Math.min(end, i + 2);
                    int value = -1;
                    while (place < last) {
                        int digit = DIGITS.indexOf((char) (letters[place] & 255));
                        digit -= digit > 15 ? 6 : 0;
                        if (digit < 0 || digit >= radix) {
                            break;
                        }
                        value = Math.max(value, 0) * radix + digit;
                        place++;
                    }
                    int escape = ESCAPES.indexOf((char) (c & 255));
                    boolean gap = c == LINE;
                    while (gap && i < end && SPACES.indexOf((char) (letters[i] & 255)) >= 0) {
                        i++;
                    }
                    i = value >= 0 ? place : i;
                    c = value >= 0 ? value : escape >= 0 ? ESCAPED.charAt(escape) : gap ? BLANK : c;
                }
                over = used >= most;
                if (!over) {
                    letters[used] = (byte) c;
                    used++;
                }
            }
        }

        /** Letters from .. to as they are, but GAPS as a BLANK. */
        private void putRaw(int text, int from, int to) {
            int i = from;
            while (i < to) {
                int c = letter(text, i);
                int end = c == '\\' ? Math.min(to, pairEnd(text, i)) : i + 1;
                if (c == '\\' && letter(text, i + 1) == LINE) {
                    put(BLANK);
                } else {
                    putPart(text, i, end);
                }
                i = end;
            }
        }

        /** Letters a .. b as an element of a list. */
        private void putElement(int text, int a, int b, boolean first) {
            boolean hash = first && a < b && letter(text, a) == '#';
            boolean special = hash;
            boolean slashed = false;
            int deep = 0;
            for (int i = a; i < b; i++) {
                int c = letter(text, i);
                special = special || isSpecial(c) || c >= TAB && c <= 13;
                slashed = slashed || c == '\\' || deep < 0;
                deep += c == '{' ? 1 : c == '}' ? -1 : 0;
            }
            if (a < b && !special) {
                putPart(text, a, b);
            } else if (!slashed && deep == 0) {
                put('{');
                putPart(text, a, b);
                put('}');
            } else {
                for (int i = a; i < b; i++) {
                    int c = letter(text, i);
                    boolean white = c >= TAB && c <= 13;
                    if (white || isSpecial(c) || hash && i == a) {
                        put('\\');
                    }
                    put(white ? "tnvfr".charAt(c - TAB) : c);
                }
            }
        }

        private static boolean isSpecial(int c) {
            switch (c) {
                case BLANK, '{', '}', '[', ']', '$', ';', '"', '\\': return true;
                default: return false;
            }
        }

        /** Ends the text that was begun; one that was too long has no letters, and wasOver tells it. */
        private int close() {
            int t = freeText > 0 ? freeText : texts;
            if (SPAN * t >= spans.length && spans.length < SPAN * TEXTS_MOST) {
                spans = Arrays.copyOf(spans, Math.min(SPAN * TEXTS_MOST, 4 * spans.length));
            }
            if (over || used > start && SPAN * t >= spans.length) {
                used = start;
                wasOver = true;
            }
            if (used == start) {
                return EMPTY;
            }
            if (t == freeText) {
                freeText = spans[SPAN * t + AFTER];
            } else {
                texts++;
            }
            spans[SPAN * t] = start;
            spans[SPAN * t + LENGTH] = used - start;
            spans[SPAN * t + AFTER] = 0;
            spans[SPAN * t + REACHED] = 0;
            spans[SPAN * t + LISTED] = 0;
            if (lastText == 0) {
                firstText = t;
            } else {
                spans[SPAN * lastText + AFTER] = t;
            }
            lastText = t;
            heldTexts++;
            return TEXT + t;
        }

        private int part(int text, int a, int b) {
            if (a <= 0 && b >= size(text)) {
                return text;
            }
            open();
            putPart(text, a, b);
            return close();
        }

        // ---- records

        /** A new record; none, and wasOver tells it, if there are as many as there may ever be. */
        private int newRecord(int kind) {
            int r = freeRecord > 0 ? freeRecord - 1 : records;
            if (r * CELLS >= cells.length && cells.length < CELLS * RECORDS_MOST) {
                cells = Arrays.copyOf(cells, Math.min(CELLS * RECORDS_MOST, 4 * cells.length));
            }
            if (r * CELLS >= cells.length) {
                wasOver = true;
                return 0;
            }
            if (freeRecord > 0) {
                freeRecord = cells[r * CELLS + CHAIN];
            } else {
                records++;
            }
            heldRecords++;
            for (int cell = 0; cell < CELLS; cell++) {
                cells[r * CELLS + cell] = 0;
            }
            cells[r * CELLS] = kind;
            return RECORD + r;
        }

        /** A record's cell; 0 of what is no record. */
        private int get(int record, int cell) {
            int r = record - RECORD;
            return r < 0 || r >= records || cell < 0 || cell >= CELLS ? 0 : cells[r * CELLS + cell];
        }

        private void set(int record, int cell, int value) {
            int r = record - RECORD;
            if (r >= 0 && r < records && cell >= 0 && cell < CELLS) {
                cells[r * CELLS + cell] = value;
            }
        }

        // ---- what is kept

        /** Whether there might be too little room for what one command makes. */
        private boolean isCrowded() {
            return used > bound(letters.length, LETTERS_MOST, LETTERS_NEED)
                || heldTexts * SPAN > bound(spans.length, SPAN * TEXTS_MOST, SPAN * TEXTS_NEED)
                || heldRecords * CELLS > bound(cells.length, CELLS * RECORDS_MOST, CELLS * RECORDS_NEED);
        }

        /** How much of a row may be held until it is crowded: one that may become longer is never too short. */
        private static int bound(int length, int most, int need) {
            return length < most ? length / 4 * 3 : most - need;
        }

        /** What a number leads to is kept. A number that only looks like one of a text or record does no harm. */
        private void mark(int number) {
            int t = number - TEXT;
            int r = number - RECORD;
            if (t > 0 && t < texts) {
                spans[SPAN * t + REACHED] = 1;
            } else if (r >= 0 && r < records && cells[r * CELLS] > 0) {
                cells[r * CELLS] = -cells[r * CELLS];
                cells[r * CELLS + CHAIN] = waiting;
                waiting = number;
            }
        }

        private void sweep() {
            sweeps++;
            for (int i = 0; i < records && waiting != 0; i++) {
                int record = waiting;
                waiting = get(record, CHAIN);
                for (int cell = NAME; cell < CELLS; cell++) {
                    mark(get(record, cell));
                }
            }
            sweepTexts();
            for (int r = 0; r < records; r++) {
                int kind = cells[r * CELLS];
                if (kind < 0) {
                    cells[r * CELLS] = -kind;
                } else if (kind > 0) {
                    cells[r * CELLS] = 0;
                    cells[r * CELLS + CHAIN] = freeRecord;
                    freeRecord = r + 1;
                    heldRecords--;
                }
            }
            growEarly();
        }

        /** Moves the texts that are kept together, in their order. */
        private void sweepTexts() {
            int t = firstText;
            used = 0;
            firstText = 0;
            lastText = 0;
            for (int i = 0; i < texts && t > 0; i++) {
                int next = spans[SPAN * t + AFTER];
                if (spans[SPAN * t + REACHED] != 0) {
                    int length = spans[SPAN * t + LENGTH];
                    System.arraycopy(letters, spans[SPAN * t], letters, used, length);
                    spans[SPAN * t] = used;
                    spans[SPAN * t + AFTER] = 0;
                    spans[SPAN * t + REACHED] = 0;
                    used += length;
                    if (lastText == 0) {
                        firstText = t;
                    } else {
                        spans[SPAN * lastText + AFTER] = t;
                    }
                    lastText = t;
                } else {
                    spans[SPAN * t + LENGTH] = 0;
                    spans[SPAN * t + AFTER] = freeText;
                    freeText = t;
                    heldTexts--;
                }
                t = next;
            }
        }

        /** What is still half full would soon be crowded again. */
        private void growEarly() {
            if (used > letters.length / 2 && letters.length < LETTERS_MOST) {
                letters = Arrays.copyOf(letters, Math.min(LETTERS_MOST, 4 * letters.length));
            }
            if (heldTexts * SPAN > spans.length / 2 && spans.length < SPAN * TEXTS_MOST) {
                spans = Arrays.copyOf(spans, Math.min(SPAN * TEXTS_MOST, 4 * spans.length));
            }
            if (heldRecords * CELLS > cells.length / 2 && cells.length < CELLS * RECORDS_MOST) {
                cells = Arrays.copyOf(cells, Math.min(CELLS * RECORDS_MOST, 4 * cells.length));
            }
        }
    }

    /**
     * The stack of an evaluation, how its latest command ended, and its WORK. What coroutines that have stopped are
     * stands at the other end of the same row, from the floor on: of each its own record, how much it is, and that.
     */
    private static final class Core {
        private final Store store;
        private final byte[] output = new byte[OUTPUT_LIMIT];
        private int outputSize;
        private int[] stack = new int[STACK_FIRST];
        private int top = HEADER;
        private int floor = STACK_FIRST;
        private int frame;
        private int task;
        private int script;
        private int scriptLevel;
        private int args;
        private int words;
        private int behind;
        private int code;
        private int answer = EMPTY;
        private int left;
        private int then;
        private int work;
        private int begun;
        private boolean halted;

        private Core(Store store) {
            this.store = store;
        }

        private void begin() {
            rest();
            collect();
            work = 0;
            begun = 0;
            halted = false;
            store.wasOver = false;
            outputSize = 0;
        }

        private void rest() {
            answer = EMPTY;
            code = FINE;
            top = HEADER;
            frame = 0;
        }

        /** Only where nothing at hand holds a text or record that neither the stack nor the answer leads to. */
        private void collect() {
            if (store.isCrowded()) {
                for (int i = 0; i < top && i < stack.length; i++) {
                    store.mark(stack[i]);
                }
                for (int i = Math.max(0, floor); i < stack.length; i++) {
                    store.mark(stack[i]);
                }
                store.mark(answer);
                store.sweep();
            }
        }

        private void push(int number) {
            if (top >= floor && stack.length < STACK_MOST) {
                int aside = stack.length - floor;
                int[] longer = new int[Math.min(STACK_MOST, 4 * stack.length)];
                System.arraycopy(stack, 0, longer, 0, top);
                System.arraycopy(stack, floor, longer, longer.length - aside, aside);
                stack = longer;
                floor = longer.length - aside;
            }
            if (top < 0 || top >= floor || top >= stack.length) {
                halted = true;
                return;
            }
            stack[top] = number;
            top++;
        }

        private void push(int a, int b, int c) {
            push(a);
            push(b);
            push(c);
        }

        private int at(int place) {
            return place < 0 || place >= stack.length ? 0 : stack[place];
        }

        private void put(int place, int number) {
            if (place >= 0 && place < stack.length) {
                stack[place] = number;
            }
        }

        /** Takes the number on top off the stack. */
        private int pop() {
            if (top <= HEADER || top > stack.length) {
                return 0;
            }
            top--;
            return stack[top];
        }

        /** A word of the command at hand, its own name being word 0. */
        private int word(int i) {
            int place = args + i;
            return i < 0 || i >= words || place < 0 || place >= stack.length ? EMPTY : stack[place];
        }

        private boolean isWord(int i, String word) {
            return i < words && store.is(word(i), word);
        }

        private int depth() {
            int place = frame + DEPTH;
            return place < 0 || place >= stack.length ? 0 : stack[place];
        }

        private int level() {
            int place = frame + LEVEL;
            return place < 0 || place >= stack.length ? 0 : stack[place];
        }

        /** Counts WORK; false by the LIMIT. */
        private boolean spend(int amount) {
            if (amount > WORK_LIMIT - work) {
                halted = true;
            }
            if (halted || store.wasOver) {
                return false;
            }
            work += amount;
            return true;
        }

        /** Whether the evaluation ends by the LIMIT: too much WORK, or too long a text. */
        private boolean isHalted() {
            return halted || store.wasOver;
        }

        private int number(long value) {
            store.open();
            if (value < 0) {
                store.put('-');
            }
            // Below 0 all numbers have a place, also the least one.
            long rest = value < 0 ? value : -value;
            long unit = 1;
            for (int i = 0; i < 18 && rest / unit <= -10; i++) {
                unit *= 10;
            }
            for (int i = 0; i < 20 && unit > 0; i++) {
                store.put((int) ('0' - rest / unit % 10));
                unit /= 10;
            }
            return store.close();
        }

        private void give(int text) {
            code = FINE;
            answer = text;
        }

        private void giveNumber(long value) {
            give(number(value));
        }

        private void giveTruth(boolean truth) {
            give(number(truth ? 1 : 0));
        }

        /** Ends with an ERROR; false, so that a call may end with it. */
        private boolean fail(String message, int text) {
            store.open();
            store.putWord(message);
            store.putPart(text, 0, ANY);
            answer = store.close();
            code = ERROR;
            return false;
        }

        private boolean failArguments() {
            return fail("arguments: ", word(0));
        }

        /** Ends with the ERROR of a fault of cutting. */
        private boolean failFault(int fault) {
            store.open();
            switch (fault) {
                case MISSING_BRACE: store.putWord("missing brace"); break;
                case MISSING_QUOTE: store.putWord("missing quote"); break;
                case MISSING_BRACKET: store.putWord("missing bracket"); break;
                case MISSING_PARENTHESIS: store.putWord("missing parenthesis"); break;
                case BEHIND_BRACE: store.putWord("letters behind brace"); break;
                case BEHIND_QUOTE: store.putWord("letters behind quote"); break;
                case TOO_DEEP: store.putWord("too deep"); break;
                default: store.putWord("bad expression"); break;
            }
            answer = store.close();
            code = ERROR;
            return false;
        }

        private void print(int letter) {
            if (outputSize < OUTPUT_LIMIT) {
                output[outputSize] = (byte) letter;
                outputSize++;
            }
        }

        // ---- coroutines that have stopped

        /** Lays all from a place on aside for a record. */
        private void layAside(int record, int from) {
            int size = top - from;
            // What is pushed for this makes the row long enough.
            for (int i = 0; i < size + 2; i++) {
                push(0);
            }
            if (halted || size < 0 || from < 0 || floor - size - 2 < from + size) {
                return;
            }
            floor -= size + 2;
            System.arraycopy(stack, from, stack, floor + 2, size);
            stack[floor] = record;
            stack[floor + 1] = size;
            top = from;
        }

        /** Where what is laid aside for a record stands; -1 if there is nothing. */
        private int aside(int record) {
            int place = floor;
            while (place >= 0 && place + 1 < stack.length && stack[place] != record) {
                place += Math.max(0, stack[place + 1]) + 2;
            }
            return place >= 0 && place + 1 < stack.length ? place : -1;
        }

        /** Pushes what is laid aside for a record. */
        private void takeBack(int record) {
            int place = aside(record);
            int fromEnd = stack.length - place;
            int size = place < 0 ? 0 : stack[place + 1];
            for (int i = 0; i < size; i++) {
                push(at(stack.length - fromEnd + 2 + i));
            }
            forget(record);
        }

        /** What is laid aside for a record, if there is anything, goes. */
        private void forget(int record) {
            int place = aside(record);
            if (place >= 0) {
                int size = stack[place + 1] + 2;
                System.arraycopy(stack, floor, stack, floor + size, place - floor);
                floor += size;
            }
        }

        // ---- frames

        private void pushFrame(int kind, int depth, int level) {
            int place = top;
            push(kind);
            push(place - frame);
            push(depth);
            push(level);
            frame = place;
        }

        /** A frame for letters or tokens. */
        private void pushCode(int kind, int depth, int level, int source) {
            pushFrame(kind, depth, level);
            push(source);
            push(0, NONE_AT_HAND, NONE_AT_HAND);
            give(EMPTY);
        }

        /** A frame for a command that goes on when what it begins has ended. */
        private void pushControl(int kind) {
            pushFrame(kind, depth(), level());
            push(words);
        }

        /** The frame at hand ends: the one below gets the code and the answer. */
        private void leave() {
            int place = frame + BACK;
            top = frame;
            frame -= place < stack.length ? stack[place] : 0;
            task = DO_RESUME;
        }

        private void leaveWith(int text) {
            code = FINE;
            answer = text;
            leave();
        }

        /** A script is to begin at a level. */
        private void enter(int text, int level) {
            script = text;
            scriptLevel = level;
            task = DO_SCRIPT;
        }

        /** An expression is to begin. */
        private void enterExpression(int text) {
            script = text;
            task = DO_EXPRESSION;
        }
    }

    /** Texts as lists and DICTIONARIES. */
    private static final class Lists {
        private final Core core;
        private final Store store;
        private int list;
        private int at;
        private int from;
        private int to;
        private boolean plain;
        private int fault;
        private long place;

        private Lists(Core core) {
            this.core = core;
            this.store = core.store;
        }

        private void begin(int text, int i) {
            list = text;
            at = i;
            fault = 0;
        }

        /** Goes to the next element; false behind the last one, and if there is a fault. */
        private boolean next() {
            int size = store.size(list);
            while (at < size && Store.isWhite(store.letter(list, at))) {
                at++;
            }
            if (at >= size || fault != 0) {
                return false;
            }
            int c = store.letter(list, at);
            boolean braced = c == '{';
            boolean bare = !braced && c != '"';
            from = bare ? at : at + 1;
            to = from;
            plain = true;
            int deep = 1;
            while (to < size) {
                c = store.letter(list, to);
                if (bare ? Store.isWhite(c) : braced ? c == '}' && deep == 1 : c == '"') {
                    break;
                }
                deep += c == '{' ? 1 : c == '}' ? -1 : 0;
                plain = plain && (braced || c != '\\');
                to = c == '\\' ? store.pairEnd(list, to) : to + 1;
            }
            at = bare ? to : to + 1;
            int behind = store.letter(list, at);
            if (!bare && to >= size) {
                fault = braced ? MISSING_BRACE : MISSING_QUOTE;
            } else if (!bare && behind >= 0 && !Store.isWhite(behind)) {
                fault = braced ? BEHIND_BRACE : BEHIND_QUOTE;
            }
            return fault == 0;
        }

        /** The text of the element at hand. */
        private int element() {
            if (plain && from == 0 && to >= store.size(list)) {
                return list;
            }
            store.open();
            if (plain) {
                store.putPart(list, from, to);
            } else {
                store.putEscaped(list, from, to);
            }
            return store.close();
        }

        private boolean isList(int text) {
            begin(text, 0);
            boolean more = true;
            for (int i = 0; i <= store.size(text) && more; i++) {
                more = next();
            }
            return fault == 0;
        }

        /** How many elements there are; -1, and the ERROR, if the text is no list. A text is looked through once. */
        private int elements(int text) {
            int known = store.listed(text);
            if (known == 0) {
                begin(text, 0);
                int size = store.size(text);
                int many = 0;
                while (many <= size && next()) {
                    many++;
                }
                known = fault != 0 ? -fault : many + 1;
                store.setListed(text, known);
            }
            if (known < 0) {
                core.failFault(-known);
                return -1;
            }
            return known - 1;
        }

        /** Pushes all elements on the stack: how many; -1, and the ERROR, if the text is no list. */
        private int pushAll(int text) {
            int bottom = core.top;
            begin(text, 0);
            int size = store.size(text);
            for (int i = 0; i <= size && next(); i++) {
                core.push(element());
            }
            if (fault != 0) {
                core.top = bottom;
                core.failFault(fault);
                return -1;
            }
            return core.top - bottom;
        }

        /** Pushes keys and values by turns, as they stand: how many of both; -1 with the ERROR. */
        private int pushEven(int text) {
            int bottom = core.top;
            int many = pushAll(text);
            if (many > 0 && many % 2 != 0) {
                core.top = bottom;
                core.fail("no dictionary", EMPTY);
                return -1;
            }
            return many;
        }

        /** Pushes keys and values by turns, each key once: how many of both; -1 with the ERROR. */
        private int pushPairs(int text) {
            int bottom = core.top;
            int many = pushAll(text);
            if (many > 0 && many % 2 != 0) {
                core.top = bottom;
                core.fail("no dictionary", EMPTY);
                return -1;
            }
            return many < 0 ? -1 : mergePairs(bottom, many);
        }

        /** Of a key that stands twice the later value stays, at the first one's place: how many are left. */
        private int mergePairs(int bottom, int many) {
            int end = bottom;
            for (int i = bottom; i < bottom + many; i += 2) {
                int key = core.at(i);
                int where = findKey(bottom, end, key);
                if (where < 0) {
                    where = end;
                    end += 2;
                }
                core.put(where, key);
                core.put(where + 1, core.at(i + 1));
            }
            core.top = end;
            return end - bottom;
        }

        /** Where a key stands among the pairs bottom .. end; -1 if it doesn't. */
        private int findKey(int bottom, int end, int key) {
            for (int i = bottom; i < end; i += 2) {
                if (store.same(core.at(i), key)) {
                    return i;
                }
            }
            return -1;
        }

        /** The list of many texts that stand from bottom on. */
        private int written(int bottom, int many) {
            store.open();
            for (int i = 0; i < many && !store.over; i++) {
                if (i > 0) {
                    store.put(BLANK);
                }
                int text = core.at(bottom + i);
                store.putElement(text, 0, store.size(text), i == 0);
            }
            return store.close();
        }

        /** The list of all texts from bottom on, which go. */
        private int popWritten(int bottom) {
            int text = written(bottom, core.top - bottom);
            core.top = bottom;
            return text;
        }

        /** Element i of a text that is a list; no letters outside. */
        private int elementAt(int text, long i) {
            begin(text, 0);
            int size = store.size(text);
            for (int k = 0; k <= size && next(); k++) {
                if (k == i) {
                    return element();
                }
            }
            return EMPTY;
        }

        /** Takes an INDEX of so many things, which place is then; false with the ERROR. */
        private boolean takeIndex(int text, int many) {
            if (store.isInteger(text, 0, ANY)) {
                place = store.number;
                return true;
            }
            place = many - 1;
            if (store.is(text, "end")) {
                return true;
            }
            int size = store.size(text);
            int sign = store.letter(text, 3);
            boolean fine = store.letter(text, 0) == 'e' && store.letter(text, 1) == 'n' && store.letter(text, 2) == 'd'
                && (sign == '-' || sign == '+') && size > 4;
            for (int i = 4; i < size; i++) {
                fine = fine && Store.isDigit(store.letter(text, i));
            }
            if (!fine || !store.isInteger(text, 4, size)) {
                return core.fail("bad index: ", text);
            }
            // Far outside is outside, whatever the number.
            long far = Math.min(store.number, 1L << 40);
            place = sign == '-' ? place - far : place + far;
            return true;
        }

        /** Words from .. behind one another, without WHITE at their ends. */
        private int concat(int from) {
            store.open();
            boolean first = true;
            for (int i = from; i < core.words && !store.over; i++) {
                int text = core.word(i);
                int a = 0;
                int b = store.size(text);
                while (a < b && Store.isWhite(store.letter(text, a))) {
                    a++;
                }
                while (b > a && Store.isWhite(store.letter(text, b - 1))) {
                    b--;
                }
                if (a < b && !first) {
                    store.put(BLANK);
                }
                first = first && a >= b;
                store.putPart(text, a, b);
            }
            return store.close();
        }

        /** The script of words from .. on. */
        private int script(int from) {
            return from == core.words - 1 ? core.word(from) : concat(from);
        }
    }

    /**
     * Goes through what stands in scripts, quotes and INDEXES. What is to be cut as a whole is passed by first, what
     * stands within something else being kept in a row of its own, not in calls of calls; then the runner goes from
     * part to part, and comes back to one by passing by again what stands ahead of it in its word, unless that is the
     * place that was kept at last. So the stack holds no more of a word, while a script in it is evaluated, than the
     * values that were put in: held tells how many numbers these are, each being one, and two more if a row of other
     * letters is ahead of it.
     */
    private static final class Cutter {
        // What the letters at hand belong to.
        private static final int DONE = 0;
        private static final int BARE = 1;
        private static final int QUOTED = 2;
        private static final int QUOTED_OPERAND = 3;
        private static final int INDEX = 4;
        private static final int WHOLE = 5;
        private static final int SINGLE = 6;
        // What comes next in a command.
        private static final int BETWEEN = 7;
        private static final int WORD = 8;
        private static final int AHEAD = 9;
        private static final int BRACKET_END = 10;
        // Told with it of what is around: the word is EXPANDED.
        private static final int SPREAD = 16;
        // What letters lead to.
        private static final int CLOSING = 11;
        private static final int VALUE = 12;
        private static final int BRACKET = 13;

        private static final int AROUND = 5;
        // How many numbers are kept of a place, ahead of what is around it.
        private static final int AHEAD_OF_AROUND = 11;

        private final Store store;
        private final int[] around = new int[AROUND * NESTED];
        private final int[] kept = new int[AHEAD_OF_AROUND + AROUND * NESTED];
        private int within;
        private int text;
        private int at;
        private boolean inBracket;
        private int kind;
        private boolean spread;
        private boolean braced;
        private int row;
        private int rowEnd;
        private int bottom;
        private int held;
        private int name;
        private int nameEnd;
        private int behind;
        private int fault;
        // How often anything was begun: what a WATCH may have changed.
        private int begun;

        private Cutter(Store store) {
            this.store = store;
        }

        /** Begins with letters of a kind, or with what comes next in a command, perhaps one in [ ]. */
        private void begin(int source, int from, int what, boolean bracket) {
            text = source;
            at = from;
            kind = what;
            inBracket = bracket;
            within = 0;
            row = from;
            bottom = 0;
            held = 0;
            fault = 0;
            begun++;
        }

        /** Keeps all that is known here, so that it needn't be found again; the letters began with what is told. */
        private void keep(int from, int what) {
            kept[0] = store.sweeps;
            kept[1] = text;
            kept[2] = from;
            kept[3] = what;
            kept[4] = inBracket ? 1 : 0;
            kept[5] = at;
            kept[6] = spread ? kind | SPREAD : kind;
            kept[7] = row;
            kept[8] = bottom;
            kept[9] = held;
            kept[10] = within;
            System.arraycopy(around, 0, kept, AHEAD_OF_AROUND, AROUND * within);
        }

        /** Goes to a place in the letters that have begun, if it is the one of which all is kept. */
        private boolean isKept(int place) {
            boolean known = kept[0] == store.sweeps && kept[1] == text && kept[2] == at && kept[3] == kind
                && kept[4] == (inBracket ? 1 : 0) && kept[5] == place;
            if (!known) {
                return false;
            }
            at = place;
            kind = kept[6] & (SPREAD - 1);
            spread = (kept[6] & SPREAD) != 0;
            row = kept[7];
            bottom = kept[8];
            held = kept[9];
            within = kept[10];
            System.arraycopy(kept, AHEAD_OF_AROUND, around, 0, AROUND * within);
            return true;
        }

        /** Goes to the next command from a place on; false if there is none. */
        private boolean findCommand(int script, int from) {
            begin(script, from, BETWEEN, false);
            passBlanks();
            return at < store.size(text);
        }

        /** Passes by what is at hand with all that is in it; or up to a place in the letters of a word. */
        private void pass(int stop) {
            int most = 8 * store.size(text) + 8;
            boolean there = false;
            for (int turn = 0; turn < most && kind != DONE && fault == 0 && !there; turn++) {
                boolean letters = kind <= SINGLE;
                int what = letters ? seek() : kind;
                there = letters && (at == stop || fault != 0);
                switch (there ? DONE : what) {
                    case CLOSING: closeLetters(); break;
                    case BRACKET: enter(at + 1, AHEAD); break;
                    case VALUE: passValue(); break;
                    case BETWEEN: between(); break;
                    case WORD: beginWord(); break;
                    case AHEAD: nextInBracket(); break;
                    case BRACKET_END: at++; endPart(leave(), at); break;
                    default: break;
                }
            }
        }

        private void passValue() {
            if (hasIndex()) {
                enter(name, INDEX);
            } else {
                endPart(at, behind);
            }
        }

        /** Goes on to what isn't a letter as others: a $ of a name, a [ , or where the letters at hand end. */
        private int seek() {
            int size = store.size(text);
            while (at <= size && fault == 0) {
                int c = store.letter(text, at);
                if (kind == BARE ? endsWord(at) : kind == INDEX ? c == ')' : kind == WHOLE ? c < 0 : c == '"') {
                    return CLOSING;
                }
                if (c < 0) {
                    fault = kind == INDEX ? MISSING_PARENTHESIS : MISSING_QUOTE;
                } else if (c == '[') {
                    return BRACKET;
                } else if (c == '$' && isName()) {
                    return VALUE;
                } else {
                    at = c == '\\' ? store.pairEnd(text, at) : at + 1;
                }
            }
            return CLOSING;
        }

        /** Whether the $ here has a name behind it: the longest one, or the letters in { }. */
        private boolean isName() {
            int size = store.size(text);
            braced = store.letter(text, at + 1) == '{';
            name = braced ? at + 2 : at + 1;
            int i = name;
            boolean more = i < size;
            while (more) {
                int c = store.letter(text, i);
                boolean second = i > name && store.letter(text, i - 1) == ':';
                boolean pair = c == ':' && (second || store.letter(text, i + 1) == ':');
                more = braced ? c != '}' : pair || Store.isNameLetter(c);
                i += more ? 1 : 0;
                more = more && i < size;
            }
            nameEnd = i;
            behind = braced ? i + 1 : i;
            if (braced && i >= size) {
                fault = MISSING_BRACE;
            } else if (!braced && i == name && kind == SINGLE) {
                fault = BAD_EXPRESSION;
            }
            return braced || i > name;
        }

        /** Whether the name that was found has an INDEX. */
        private boolean hasIndex() {
            return !braced && store.letter(text, nameEnd) == '(';
        }

        /** The name of the array in whose INDEX the letters at hand are. */
        private int arrayName() {
            int from = within > 0 ? around[AROUND * within - 1] : 0;
            int to = from;
            while (to < at && store.letter(text, to) != '(') {
                to++;
            }
            return store.part(text, from, to);
        }

        /** A value that began at a place has ended at another one. */
        private void endPart(int from, int to) {
            held += row < from ? 3 : 1;
            at = to;
            row = to;
            if (kind == SINGLE) {
                kind = DONE;
            }
        }

        /** Goes into a [ or a ( of a name, behind which what is told stands. */
        private void enter(int from, int what) {
            if (within >= NESTED) {
                fault = TOO_DEEP;
                return;
            }
            int place = AROUND * within;
            around[place] = spread ? kind | SPREAD : kind;
            around[place + 1] = row;
            around[place + 2] = bottom;
            around[place + 3] = held;
            around[place + 4] = from;
            within++;
            kind = what;
            at = what == INDEX ? nameEnd + 1 : from;
            row = at;
            bottom = held;
        }

        /** Goes back to what was around: where what was within it began. */
        private int leave() {
            within = Math.max(0, within - 1);
            int place = AROUND * within;
            kind = around[place] & (SPREAD - 1);
            spread = (around[place] & SPREAD) != 0;
            row = around[place + 1];
            bottom = around[place + 2];
            held = around[place + 3];
            return around[place + 4] - 1;
        }

        /** The letters at hand have ended. */
        private void closeLetters() {
            at += kind == BARE || kind == WHOLE ? 0 : 1;
            if (kind == INDEX) {
                endPart(leave(), at);
            } else if (kind == BARE || kind == QUOTED) {
                fault = kind == QUOTED && !endsWord(at) ? BEHIND_QUOTE : 0;
                kind = BETWEEN;
            } else {
                kind = DONE;
            }
        }

        private void passBlanks() {
            int size = store.size(text);
            while (at < size) {
                int c = store.letter(text, at);
                if (Store.isWhite(c) || c == ';') {
                    at++;
                } else if (c == '\\' && store.letter(text, at + 1) == LINE) {
                    at = store.pairEnd(text, at);
                } else if (c == '#') {
                    while (at < size && c != LINE) {
                        at = c == '\\' ? store.pairEnd(text, at) : at + 1;
                        c = store.letter(text, at);
                    }
                } else {
                    return;
                }
            }
        }

        /** Whether a command or word in a script ends here. */
        private boolean endsWord(int i) {
            int c = store.letter(text, i);
            return c < 0 || c >= TAB && c <= 13 || c == BLANK || c == ';' || c == ']' && (inBracket || within > 0)
                || c == '\\' && store.letter(text, i + 1) == LINE;
        }

        private void passSpaces() {
            int size = store.size(text);
            int c = store.letter(text, at);
            while (at < size && (Store.isSpace(c) || c == '\\' && store.letter(text, at + 1) == LINE)) {
                at = c == '\\' ? store.pairEnd(text, at) : at + 1;
                c = store.letter(text, at);
            }
        }

        /** Goes to the next word; false where the command ends. */
        private boolean findWord() {
            passSpaces();
            return !endsWord(at);
        }

        private void between() {
            passSpaces();
            if (!endsWord(at)) {
                kind = WORD;
                return;
            }
            int c = store.letter(text, at);
            if (c < 0 && within > 0) {
                fault = MISSING_BRACKET;
                return;
            }
            kind = c == ']' ? BRACKET_END : within > 0 ? AHEAD : DONE;
            at += c < 0 || c == ']' ? 0 : 1;
        }

        /** Goes into the word here; one in { } is passed by. */
        private void beginWord() {
            spread = store.isAt(text, at, at + 3, "{*}") && !endsWord(at + 3);
            at += spread ? 3 : 0;
            int c = store.letter(text, at);
            if (c == '{') {
                passBraced();
                fault = fault == 0 && !endsWord(at) ? BEHIND_BRACE : fault;
                kind = BETWEEN;
            } else {
                at += c == '"' ? 1 : 0;
                kind = c == '"' ? QUOTED : BARE;
                row = at;
                bottom = 0;
                held = 0;
            }
        }

        /** Goes into the word here, and passes it by if it is letters alone, row .. rowEnd, perhaps in { }. */
        private boolean isPlainWord() {
            beginWord();
            braced = kind == BETWEEN;
            if (braced) {
                return true;
            }
            boolean plain = seek() == CLOSING;
            if (plain) {
                rowEnd = at;
                braced = false;
                at += kind == QUOTED ? 1 : 0;
                kind = BETWEEN;
            }
            return plain;
        }

        /** Passes the { } here by, between which row .. rowEnd stand. */
        private void passBraced() {
            int size = store.size(text);
            int deep = 1;
            int i = at + 1;
            while (i < size && deep > 0) {
                int c = store.letter(text, i);
                if (c == '\\') {
                    i = store.pairEnd(text, i);
                } else {
                    deep += c == '{' ? 1 : c == '}' ? -1 : 0;
                    i++;
                }
            }
            if (deep > 0) {
                fault = MISSING_BRACE;
            }
            row = at + 1;
            rowEnd = i - 1;
            at = i;
        }

        /** Ahead of a command in [ ]. */
        private void nextInBracket() {
            passBlanks();
            int c = store.letter(text, at);
            if (c < 0) {
                fault = MISSING_BRACKET;
            } else {
                kind = c == ']' ? BRACKET_END : BETWEEN;
            }
        }
    }

    /**
     * Expressions: cuts them into tokens, each operator behind its operands, and works the operators. The operators
     * that wait for their right side stand in a row of their own.
     */
    private static final class Formula {
        private final Cutter cutter;
        private final Core core;
        private final Store store;
        private final Lists lists;
        // A pair for each that waits: at most 50 of those that nest, and a dozen that bind more and more within each.
        private final int[] waits = new int[2048];
        private int waiting;
        private int nested;
        private int fault;
        private boolean wantsOperand;
        private long value;
        // The tokens of the expression that was cut at last: the next one is often the same, that of a loop.
        private int[] kept = new int[TOKENS_FIRST];
        private int keptSize;
        private int keptText;
        private int keptSweeps;

        private Formula(Core core, Cutter cutter, Lists lists) {
            this.cutter = cutter;
            this.core = core;
            this.store = core.store;
            this.lists = lists;
        }

        /** Cuts the expression whose frame is the one at hand: its tokens stand in it then. */
        private void cut() {
            core.task = DO_TOKEN;
            if (core.script == keptText && store.sweeps == keptSweeps) {
                for (int i = 0; i < keptSize && i < kept.length; i++) {
                    core.push(kept[i]);
                }
                return;
            }
            pushTokens();
            if (fault != 0) {
                core.failFault(fault);
                core.task = DO_FAULT;
            } else {
                keepTokens();
            }
        }

        /** Keeps the tokens on top, if there aren't too many. */
        private void keepTokens() {
            int from = core.frame + CODE;
            keptSize = core.top - from;
            keptText = core.script;
            keptSweeps = store.sweeps;
            if (keptSize > kept.length && keptSize <= TOKENS_MOST) {
                kept = new int[Math.min(TOKENS_MOST, Math.max(4 * kept.length, keptSize))];
            }
            if (keptSize < 0 || keptSize > kept.length || from < 0 || from + keptSize > core.stack.length) {
                keptText = 0;
                return;
            }
            System.arraycopy(core.stack, from, kept, 0, keptSize);
        }

        private void pushTokens() {
            cutter.begin(core.script, 0, Cutter.DONE, false);
            waiting = 0;
            nested = 0;
            fault = 0;
            wantsOperand = true;
            int size = store.size(core.script);
            for (int turn = 0; turn <= size && fault == 0 && passWhite(); turn++) {
                if (wantsOperand) {
                    operand();
                } else {
                    operator();
                }
            }
            if (fault == 0) {
                settleAll();
                fault = wantsOperand || waiting > 0 ? BAD_EXPRESSION : 0;
            }
            core.push(T_FINISH);
        }

        /** Goes to what isn't WHITE; false at the end. */
        private boolean passWhite() {
            int size = store.size(cutter.text);
            while (cutter.at < size) {
                int c = store.letter(cutter.text, cutter.at);
                if (c == '\\' && store.letter(cutter.text, cutter.at + 1) == LINE) {
                    cutter.at = store.pairEnd(cutter.text, cutter.at);
                } else if (Store.isWhite(c)) {
                    cutter.at++;
                } else {
                    return true;
                }
            }
            return false;
        }

        private void operand() {
            int c = store.letter(cutter.text, cutter.at);
            switch (c) {
                case '(': nest(PARENTHESIS, 0); break;
                case '-': nest(MINUS_AHEAD, 0); break;
                case '+': nest(PLUS_AHEAD, 0); break;
                case '~': nest(TILDE_AHEAD, 0); break;
                case '!': nest(NOT_AHEAD, 0); break;
                case '$', '[': beginLetters(Cutter.SINGLE); cutter.pass(NONE); endOperand(); return;
                case '"': cutter.at++; beginLetters(Cutter.QUOTED_OPERAND); cutter.pass(NONE); endOperand(); return;
                case '{': braced(); return;
                default: word(c); return;
            }
            cutter.at++;
        }

        /** Letters with what is put in among them: a $, a [ ] or what stands in quotes. */
        private void beginLetters(int kind) {
            core.push(T_LETTERS, kind, cutter.at);
            cutter.row = cutter.at;
            cutter.kind = kind;
        }

        private void braced() {
            cutter.passBraced();
            core.push(T_RAW, cutter.row, cutter.rowEnd);
            endOperand();
        }

        /** An INTEGER, a truth or a function's name: a row of NAME LETTERS. */
        private void word(int first) {
            int from = cutter.at;
            int to = from;
            int size = store.size(cutter.text);
            while (to < size && Store.isNameLetter(store.letter(cutter.text, to))) {
                to++;
            }
            cutter.at = to;
            boolean number = Store.isDigit(first);
            int text = cutter.text;
            int function = store.isAt(text, from, to, "abs") ? ABS : store.isAt(text, from, to, "min") ? MIN
                : store.isAt(text, from, to, "max") ? MAX : 0;
            boolean truth = store.isAt(text, from, to, "true") || store.isAt(text, from, to, "false")
                || store.isAt(text, from, to, "yes") || store.isAt(text, from, to, "no")
                || store.isAt(text, from, to, "on") || store.isAt(text, from, to, "off");
            if (function != 0 && passWhite() && store.letter(cutter.text, cutter.at) == '(') {
                nest(function, 1);
                cutter.at++;
            } else if (truth || number && store.isInteger(cutter.text, from, to)) {
                core.push(T_RAW, from, to);
                endOperand();
            } else {
                fault = BAD_EXPRESSION;
            }
        }

        private void endOperand() {
            if (cutter.fault != 0) {
                fault = BAD_EXPRESSION;
                return;
            }
            endValue();
        }

        /** A value is there: the operators just ahead of it are next. */
        private void endValue() {
            wantsOperand = false;
            while (waiting > 0 && last() <= NOT_AHEAD) {
                core.push(T_UNARY);
                core.push(last());
                waiting--;
                nested--;
            }
        }

        private int last() {
            return waiting > 0 ? waits[2 * waiting - 2] : 0;
        }

        private int lastPlace() {
            return waiting > 0 ? waits[2 * waiting - 1] : 0;
        }

        private void await(int what, int place) {
            if (2 * waiting + 1 >= waits.length) {
                fault = TOO_DEEP;
                return;
            }
            waits[2 * waiting] = what;
            waits[2 * waiting + 1] = place;
            waiting++;
        }

        private void nest(int what, int place) {
            if (nested >= NESTED) {
                fault = TOO_DEEP;
                return;
            }
            nested++;
            await(what, place);
        }

        private void operator() {
            int c = store.letter(cutter.text, cutter.at);
            switch (c) {
                case ')': close(); break;
                case ',': comma(); break;
                case '?': question(); break;
                case ':': colon(); break;
                default: binary(); return;
            }
            cutter.at++;
        }

        private void close() {
            settleAll();
            int what = last();
            boolean function = what == ABS || what == MIN || what == MAX;
            if (what != PARENTHESIS && !function) {
                fault = BAD_EXPRESSION;
                return;
            }
            if (function) {
                core.push(T_FUNCTION, what, lastPlace());
            }
            waiting--;
            nested--;
            endValue();
        }

        private void comma() {
            settleAll();
            if (waiting <= 0 || last() != MIN && last() != MAX) {
                fault = BAD_EXPRESSION;
                return;
            }
            waits[2 * waiting - 1]++;
            wantsOperand = true;
        }

        private void question() {
            settle(0);
            nest(QUESTION, pushJump(T_CHOOSE));
            wantsOperand = true;
        }

        private void colon() {
            settleAll();
            if (last() != QUESTION) {
                fault = BAD_EXPRESSION;
                return;
            }
            int choice = lastPlace();
            waiting--;
            await(COLON, pushJump(T_JUMP));
            core.put(core.frame + choice, core.top - core.frame);
            wantsOperand = true;
        }

        /** Pushes a token that goes elsewhere: the place at which it is told where, from the frame on. */
        private int pushJump(int token) {
            core.push(token);
            core.push(0);
            return core.top - 1 - core.frame;
        }

        private void binary() {
            int what = binaryAt(cutter.at);
            if (what == 0) {
                fault = BAD_EXPRESSION;
                return;
            }
            settle(what);
            if (what == BOTH || what == EITHER) {
                await(what, pushJump(what == BOTH ? T_AND : T_OR));
            } else if (what == POWER) {
                nest(what, 0);
            } else {
                await(what, 0);
            }
            wantsOperand = true;
        }

        /** The operator between two operands that stands here, which is passed by; 0 if there is none. */
        private int binaryAt(int from) {
            int c = store.letter(cutter.text, from);
            int second = store.letter(cutter.text, from + 1);
            boolean twice = c == second && (c == '*' || c == '<' || c == '>' || c == '=' || c == '&' || c == '|');
            boolean two = twice || second == '=' && (c == '<' || c == '>' || c == '!');
            cutter.at = two ? from + 2 : from + 1;
            switch (c) {
                case '*': return two ? POWER : TIMES;
                case '/': return DIVIDED;
                case '%': return MODULO;
                case '+': return PLUS;
                case '-': return MINUS;
                case '<': return twice ? LEFT_SHIFT : two ? AT_MOST : LESS;
                case '>': return twice ? RIGHT_SHIFT : two ? AT_LEAST : GREATER;
                case '=': return two ? EQUAL : 0;
                case '!': return two ? UNEQUAL : 0;
                case '&': return two ? BOTH : AND;
                case '|': return two ? EITHER : OR;
                case '^': return XOR;
                default: return wordOperator(from);
            }
        }

        private int wordOperator(int from) {
            int to = from;
            int size = store.size(cutter.text);
            while (to < size && Store.isNameLetter(store.letter(cutter.text, to))) {
                to++;
            }
            cutter.at = to;
            if (store.isAt(cutter.text, from, to, "eq")) {
                return SAME;
            }
            if (store.isAt(cutter.text, from, to, "ne")) {
                return OTHER;
            }
            return store.isAt(cutter.text, from, to, "in") ? IN : store.isAt(cutter.text, from, to, "ni") ? NOT_IN : 0;
        }

        /** The operators that bind more than the next one, or as much from the left, are worked ahead of it. */
        private void settle(int next) {
            int bound = next >> 4;
            for (int i = waiting; i > 0 && last() >= EITHER && last() >> 4 >= bound; i--) {
                if (next == POWER && last() == POWER) {
                    return;
                }
                settleLast();
            }
        }

        /** All operators are worked, back to what is open. */
        private void settleAll() {
            for (int i = waiting; i > 0 && (last() >= EITHER || last() == COLON); i--) {
                settleLast();
            }
        }

        private void settleLast() {
            int what = last();
            int place = lastPlace();
            waiting--;
            if (what == BOTH || what == EITHER) {
                core.push(T_TRUTH);
            } else if (what != COLON) {
                core.push(T_BINARY);
                core.push(what);
            }
            if (place != 0) {
                core.put(core.frame + place, core.top - core.frame);
            }
            if (what == COLON || what == POWER) {
                nested--;
            }
        }

        // ---- working

        /** What an INTEGER is, in value; false with the ERROR. */
        private boolean takeNumber(int text) {
            if (!store.isInteger(text, 0, ANY)) {
                return core.fail("no number: ", text);
            }
            value = store.number;
            return true;
        }

        private void pushTruth(boolean truth) {
            core.push(core.number(truth ? 1 : 0));
        }

        /** 1 or 0 for the truth of a text; -1 with the ERROR. */
        private int takeTruth(int text) {
            int truth = store.truth(text);
            if (truth < 0) {
                core.fail("no truth: ", text);
            }
            return truth;
        }

        private boolean workUnary(int what) {
            if (!core.spend(1)) {
                return false;
            }
            int text = core.pop();
            if (what == NOT_AHEAD) {
                int truth = takeTruth(text);
                pushTruth(truth == 0);
                return truth >= 0;
            }
            if (!takeNumber(text)) {
                return false;
            }
            if (what == MINUS_AHEAD && value == Long.MIN_VALUE) {
                return core.fail("too great", EMPTY);
            }
            core.push(core.number(what == MINUS_AHEAD ? -value : what == TILDE_AHEAD ? ~value : value));
            return true;
        }

        private boolean workFunction(int what, int many) {
            if (!core.spend(1)) {
                return false;
            }
            long best = 0;
            int bottom = core.top - many;
            for (int i = 0; i < many; i++) {
                if (!takeNumber(core.at(bottom + i))) {
                    return false;
                }
                best = i == 0 ? value : what == MIN ? Math.min(best, value) : Math.max(best, value);
            }
            core.top = bottom;
            if (what == ABS && best == Long.MIN_VALUE) {
                return core.fail("too great", EMPTY);
            }
            core.push(core.number(what == ABS ? Math.abs(best) : best));
            return true;
        }

        private boolean workBinary(int what) {
            if (!core.spend(1)) {
                return false;
            }
            int right = core.pop();
            int left = core.pop();
            if (what == SAME || what == OTHER) {
                pushTruth(store.same(left, right) == (what == SAME));
                return true;
            }
            if (what == IN || what == NOT_IN) {
                return workIn(left, right, what == IN);
            }
            if (what >= EQUAL && what <= AT_LEAST) {
                pushTruth(isOrdered(what, left, right));
                return true;
            }
            if (!takeNumber(left)) {
                return false;
            }
            long a = value;
            if (!takeNumber(right) || !workNumbers(what, a, value)) {
                return false;
            }
            core.push(core.number(value));
            return true;
        }

        private boolean workIn(int left, int right, boolean wanted) {
            int bottom = core.top;
            int many = lists.pushAll(right);
            boolean found = false;
            for (int i = 0; i < many; i++) {
                found = found || store.same(core.at(bottom + i), left);
            }
            core.top = bottom;
            pushTruth(found == wanted);
            return many >= 0;
        }

        private boolean isOrdered(int what, int left, int right) {
            int order = store.compare(left, right);
            if (store.isInteger(left, 0, ANY)) {
                long a = store.number;
                order = store.isInteger(right, 0, ANY) ? Long.compare(a, store.number) : order;
            }
            switch (what) {
                case EQUAL: return order == 0;
                case UNEQUAL: return order != 0;
                case LESS: return order < 0;
                case GREATER: return order > 0;
                case AT_MOST: return order <= 0;
                default: return order >= 0;
            }
        }

        /** Works an operator on two numbers: what comes of it is value; false with the ERROR. */
        private boolean workNumbers(int what, long a, long b) {
            boolean second = what == POWER || what == LEFT_SHIFT || what == RIGHT_SHIFT;
            if (second && b < 0) {
                return core.fail("bad second", EMPTY);
            }
            if ((what == DIVIDED || what == MODULO) && b == 0) {
                return core.fail("divided by 0", EMPTY);
            }
            boolean great = false;
            switch (what) {
                case PLUS: value = a + b; great = isSumTooGreat(a, b); break;
                case MINUS: value = a - b; great = ((a ^ b) & (a ^ value)) < 0; break;
                case TIMES: value = a * b; great = isProductTooGreat(a, b); break;
                case DIVIDED: value = Math.floorDiv(a, b); great = a == Long.MIN_VALUE && b == -1; break;
                case MODULO: value = Math.floorMod(a, b); break;
                case POWER: great = isPowerTooGreat(a, b); break;
                case LEFT_SHIFT: value = b > 63 ? 0 : a << b; great = b > 63 ? a != 0 : value >> b != a; break;
                case RIGHT_SHIFT: value = a >> Math.min(b, 63); break;
                case AND: value = a & b; break;
                case XOR: value = a ^ b; break;
                default: value = a | b; break;
            }
            return !great || core.fail("too great", EMPTY);
        }

        private static boolean isSumTooGreat(long a, long b) {
            long all = a + b;
            return ((a ^ all) & (b ^ all)) < 0;
        }

        private static boolean isProductTooGreat(long a, long b) {
            if (b == 0 || a == 0) {
                return false;
            }
            return a == Long.MIN_VALUE && b == -1 || b == Long.MIN_VALUE && a == -1 || a * b / b != a;
        }

        /** The power is value then. */
        private boolean isPowerTooGreat(long a, long b) {
            value = 1;
            if (a == 0 || a == 1 || a == -1) {
                value = b == 0 || a == -1 && b % 2 == 0 ? 1 : a;
                return false;
            }
            boolean great = false;
            // What isn't 0, 1 or -1 is too great by its 64th power.
            for (long i = 0; i < b && i < 64 && !great; i++) {
                great = isProductTooGreat(value, a);
                value *= a;
            }
            return great;
        }
    }

    /** Rooms, levels, commands and variables with their LINKS and WATCHES. */
    private static final class Names {
        // What is wrong with what a name leads to.
        private static final int NO_ROOM = 1;
        private static final int NO_ARRAY = 2;
        // How many numbers an act keeps on the stack while its WATCHES are done: its name is first, the WATCH last.
        private static final int WATCH_KEEPS = 7;
        // What has become of the WATCHES of an act.
        private static final int FAILED = -1;
        private static final int NOTHING_DONE = 0;
        private static final int ALL_DONE = 1;

        private final Core core;
        private final Store store;
        private final Lists lists;
        private Runner runner;
        private int root;
        private int ground;
        private int procedures;
        private int coroutines;
        private int rooms;
        private int pathEnd;
        private int tail;
        private int base;
        private int index;
        private int holder;
        private int found;
        private int key;
        private int trouble;
        private int unsets;
        private int watching;

        private Names(Core core, Lists lists) {
            this.core = core;
            this.store = core.store;
            this.lists = lists;
        }

        /** Makes the house as new. */
        private void renew() {
            store.clear();
            core.floor = core.stack.length;
            procedures = 0;
            coroutines = 0;
            rooms = 0;
            unsets = 0;
            root = store.newRecord(A_ROOM);
            store.set(root, NAME, EMPTY);
            ground = store.newRecord(A_LEVEL);
            store.set(ground, ROOM, root);
            // The lowest frame leads to all that a house has.
            core.put(LEVEL, ground);
            for (int i = 0; i < ALL_TOLD.length; i++) {
                if (ALL_TOLD[i].family.isEmpty()) {
                    store.open();
                    store.putWord(ALL_TOLD[i].text);
                    addCommand(root, store.close(), i);
                }
            }
        }

        // ---- rooms and paths

        private int roomAtHand() {
            return store.get(core.level(), ROOM);
        }

        private boolean isAbsolute(int name) {
            return store.letter(name, 0) == ':' && store.letter(name, 1) == ':';
        }

        /** Finds where the PATH ahead of a name's TAIL ends, -1 without one, and where the TAIL begins. */
        private void cutPath(int name) {
            pathEnd = -1;
            tail = 0;
            for (int i = store.size(name) - 2; i >= 0 && pathEnd < 0; i--) {
                if (store.letter(name, i) == ':' && store.letter(name, i + 1) == ':') {
                    tail = i + 2;
                    pathEnd = i;
                }
            }
            while (pathEnd > 0 && store.letter(name, pathEnd - 1) == ':') {
                pathEnd--;
            }
        }

        /** The room that letters 0 .. end of a text lead to from a room; 0 if there is none. */
        private int roomBy(int path, int end, int start) {
            int room = store.letter(path, 0) == ':' && store.letter(path, 1) == ':' ? root : start;
            int i = 0;
            while (i < end && room != 0) {
                int from = i;
                while (i < end && (store.letter(path, i) != ':' || store.letter(path, i + 1) != ':')) {
                    i++;
                }
                if (from < i) {
                    room = store.get(room, CHILDREN);
                }
                while (from < i && room != 0 && !store.samePart(store.get(room, NAME), path, from, i)) {
                    room = store.get(room, NEXT_ONE);
                }
                while (i < end && store.letter(path, i) == ':') {
                    i++;
                }
            }
            return room;
        }

        /** Behind two or more : that stand at i, else there. */
        private int partBegin(int path, int i, int end) {
            int begin = i;
            if (store.letter(path, i) == ':' && store.letter(path, i + 1) == ':') {
                while (begin < end && store.letter(path, begin) == ':') {
                    begin++;
                }
            }
            return begin;
        }

        /** Where two or more : stand next from i on, or the end. */
        private int partEnd(int path, int i, int end) {
            int stop = i;
            while (stop < end && (store.letter(path, stop) != ':' || store.letter(path, stop + 1) != ':')) {
                stop++;
            }
            return stop;
        }

        /** The room that a text leads to from the room at hand, which comes, with those on the way. */
        private int makeRoom(int path) {
            int end = store.size(path);
            int room = isAbsolute(path) ? root : roomAtHand();
            int i = partBegin(path, 0, end);
            while (i < end) {
                int stop = partEnd(path, i, end);
                int child = store.get(room, CHILDREN);
                while (child != 0 && !store.samePart(store.get(child, NAME), path, i, stop)) {
                    child = store.get(child, NEXT_ONE);
                }
                if (child == 0) {
                    child = newRoom(room, store.part(path, i, stop));
                }
                room = child;
                i = partBegin(path, stop, end);
            }
            return room;
        }

        private int newRoom(int parent, int name) {
            int room = store.newRecord(A_ROOM);
            store.set(room, NAME, name);
            store.set(room, ROOM, parent);
            store.set(room, NEXT_ONE, store.get(parent, CHILDREN));
            store.set(parent, CHILDREN, room);
            rooms++;
            return room;
        }

        private boolean isWithin(int room, int outer) {
            int r = room;
            while (r != 0 && r != outer) {
                r = store.get(r, ROOM);
            }
            return r != 0;
        }

        /** The FULL name of a room, or of what stands in it with a TAIL. */
        private int fullName(int room, int tail) {
            int bottom = core.top;
            for (int r = room; r != 0 && r != root; r = store.get(r, ROOM)) {
                core.push(store.get(r, NAME));
            }
            store.open();
            for (int i = core.top - 1; i >= bottom; i--) {
                store.putWord("::");
                store.putPart(core.at(i), 0, ANY);
            }
            if (tail != 0 || core.top == bottom) {
                store.putWord("::");
                store.putPart(tail, 0, ANY);
            }
            core.top = bottom;
            return store.close();
        }

        /** Whether a room may not go: a level has it or a room in it, or one that runs has a name in it. */
        private boolean isInUse(int room) {
            boolean inUse = room == root;
            int last = 0;
            for (int level = store.get(ground, NEXT_ONE); level != 0 && !inUse; level = store.get(level, NEXT_ONE)) {
                int its = store.get(level, ROOM);
                inUse = its != last && isWithin(its, room);
                last = its;
            }
            for (int runs = runner.coroutine; runs != 0 && !inUse; runs = store.get(runs, OUTER)) {
                inUse = isWithin(store.get(runs, ROOM), room);
            }
            return inUse;
        }

        /** Deletes a room, those in it first. */
        private void deleteRoom(int room) {
            int most = 2 * rooms;
            int r = room;
            for (int i = 0; i <= most && r != 0; i++) {
                int inner = store.get(r, CHILDREN);
                if (inner != 0) {
                    r = inner;
                    continue;
                }
                for (int command = store.get(r, COMMANDS); command != 0; command = store.get(command, NEXT_ONE)) {
                    forget(command);
                }
                store.set(r, COMMANDS, 0);
                for (int v = store.get(r, VARIABLES); v != 0; v = store.get(v, NEXT_ONE)) {
                    clearVariable(v, -1);
                }
                store.set(r, VARIABLES, 0);
                int parent = store.get(r, ROOM);
                unlink(parent, CHILDREN, r);
                rooms--;
                r = r == room ? 0 : parent;
            }
        }

        /** Takes a record out of the chain that a cell of another one begins; its own next one stays as it is. */
        private void unlink(int from, int cell, int record) {
            int one = store.get(from, cell);
            if (one == record) {
                store.set(from, cell, store.get(record, NEXT_ONE));
                return;
            }
            while (one != 0 && store.get(one, NEXT_ONE) != record) {
                one = store.get(one, NEXT_ONE);
            }
            store.set(one, NEXT_ONE, store.get(record, NEXT_ONE));
        }

        // ---- commands

        private int addCommand(int room, int name, int type) {
            int command = store.newRecord(A_COMMAND);
            store.set(command, NAME, name);
            linkCommand(room, command);
            setType(command, type);
            return command;
        }

        /** Puts a command behind all others of a room. */
        private void linkCommand(int room, int command) {
            int one = store.get(room, COMMANDS);
            store.set(command, ROOM, room);
            store.set(command, NEXT_ONE, 0);
            if (one == 0) {
                store.set(room, COMMANDS, command);
                return;
            }
            while (store.get(one, NEXT_ONE) != 0) {
                one = store.get(one, NEXT_ONE);
            }
            store.set(one, NEXT_ONE, command);
        }

        private void setType(int command, int type) {
            store.set(command, TYPE, type);
            procedures += type == PROCEDURE ? 1 : 0;
            coroutines += type == COROUTINE ? 1 : 0;
        }

        /** What a command was is no more; of a coroutine its levels are not there any more. */
        private void forget(int command) {
            int type = store.get(command, TYPE);
            procedures -= type == PROCEDURE ? 1 : 0;
            coroutines -= type == COROUTINE ? 1 : 0;
            store.set(command, IS_RUNNING, 0);
            if (type == COROUTINE) {
                core.forget(command);
            }
            int next = 0;
            int level = type == COROUTINE ? store.get(ground, NEXT_ONE) : 0;
            while (level != 0) {
                next = store.get(level, NEXT_ONE);
                if (store.get(level, OWNER) == command) {
                    endLevel(level);
                }
                level = next;
            }
        }

        private void drop(int command) {
            forget(command);
            unlink(store.get(command, ROOM), COMMANDS, command);
        }

        private int commandIn(int room, int name, int from) {
            int size = store.size(name);
            int command = store.get(room, COMMANDS);
            while (command != 0 && !store.samePart(store.get(command, NAME), name, from, size)) {
                command = store.get(command, NEXT_ONE);
            }
            return command;
        }

        /** The command that a name means in the room at hand; 0 if there is none. */
        private int command(int name) {
            cutPath(name);
            boolean path = pathEnd >= 0;
            int near = path ? roomBy(name, pathEnd, roomAtHand()) : roomAtHand();
            int command = commandIn(near, name, tail);
            if (command == 0) {
                int far = path ? roomBy(name, pathEnd, root) : root;
                command = commandIn(far, name, tail);
            }
            return command;
        }

        /** The room in which a command of this name would be made; 0 with the ERROR. */
        private int homeOf(int name) {
            cutPath(name);
            int room = pathEnd < 0 ? roomAtHand() : roomBy(name, pathEnd, roomAtHand());
            if (room == 0) {
                core.fail("no room: ", store.part(name, 0, pathEnd));
            }
            return room;
        }

        private int tailOf(int name) {
            cutPath(name);
            return store.part(name, tail, store.size(name));
        }

        // ---- levels

        /** A level above the one at hand; all that are there stand in a chain behind the lowest. */
        private int newLevel(int room, int own) {
            int below = core.level();
            int level = store.newRecord(A_LEVEL);
            int next = store.get(ground, NEXT_ONE);
            store.set(level, ROOM, room);
            store.set(level, OWN, own);
            store.set(level, NUMBER, store.get(below, NUMBER) + 1);
            store.set(level, BELOW, below);
            store.set(level, OWNER, runner.coroutine);
            store.set(level, NEXT_ONE, next);
            store.set(level, LAST_ONE, ground);
            store.set(next, LAST_ONE, level);
            store.set(ground, NEXT_ONE, level);
            return level;
        }

        private void endLevel(int level) {
            int next = store.get(level, NEXT_ONE);
            int last = store.get(level, LAST_ONE);
            store.set(last, NEXT_ONE, next);
            store.set(next, LAST_ONE, last);
        }

        private int levelOfNumber(long number) {
            int level = core.level();
            while (level != 0 && store.get(level, NUMBER) != number) {
                level = store.get(level, BELOW);
            }
            return level;
        }

        /** Whether a text tells a level: digits, or # and digits. */
        private boolean isLevel(int text) {
            int from = store.letter(text, 0) == '#' ? 1 : 0;
            int size = store.size(text);
            boolean digits = size > from;
            for (int i = from; i < size; i++) {
                digits = digits && Store.isDigit(store.letter(text, i));
            }
            return digits;
        }

        /** The level that a text tells; 0 with the ERROR. */
        private int levelBy(int text) {
            int level = 0;
            int from = store.letter(text, 0) == '#' ? 1 : 0;
            if (isLevel(text) && store.isInteger(text, from, store.size(text))) {
                level = levelOfNumber(from == 1 ? store.number : store.get(core.level(), NUMBER) - store.number);
            }
            if (level == 0) {
                core.fail("no level: ", text);
            }
            return level;
        }

        // ---- what a name leads to

        /** Cuts a name, which the next act is by, into what is ahead of its INDEX and that, 0 without one. */
        private void aim(int name) {
            base = name;
            index = 0;
            int size = store.size(name);
            if (store.letter(name, size - 1) != ')') {
                return;
            }
            int i = 0;
            while (i < size && store.letter(name, i) != '(') {
                i++;
            }
            if (i < size) {
                base = store.part(name, 0, i);
                index = store.part(name, i + 1, size - 1);
            }
        }

        private void aim(int array, int element) {
            base = array;
            index = element;
        }

        /**
         * Finds what the name means at a level: the variable, 0 if there has never been one, and the INDEX of the
         * ELEMENT. False if there is trouble.
         */
        private boolean find(int level) {
            found = 0;
            key = index;
            trouble = 0;
            cutPath(base);
            int own = store.get(level, OWN) != 0 ? level : store.get(level, ROOM);
            holder = pathEnd < 0 ? own : roomBy(base, pathEnd, store.get(level, ROOM));
            if (holder == 0) {
                trouble = NO_ROOM;
                return false;
            }
            follow(variableIn(holder, base, tail));
            return trouble == 0;
        }

        private void follow(int variable) {
            int v = variable;
            while (v != 0 && store.get(v, STATE) == IS_LINK && trouble == 0) {
                int linked = store.get(v, VALUE_OF);
                if (linked != 0 && key != 0) {
                    trouble = NO_ARRAY;
                } else if (linked != 0) {
                    key = linked;
                }
                v = store.get(v, TARGET);
            }
            found = v;
        }

        private int variableIn(int from, int name, int tailAt) {
            int size = store.size(name);
            int v = store.get(from, VARIABLES);
            while (v != 0 && !store.samePart(store.get(v, NAME), name, tailAt, size)) {
                v = store.get(v, NEXT_ONE);
            }
            return v;
        }

        /** A variable that isn't there, with a name of its own. */
        private int newVariable(int in, int name) {
            int v = store.newRecord(A_VARIABLE);
            store.set(v, NAME, name);
            store.set(v, OWN, store.get(in, OWN));
            store.set(v, NEXT_ONE, store.get(in, VARIABLES));
            store.set(in, VARIABLES, v);
            return v;
        }

        /** What was found; if there has never been one, it is made, but isn't there. */
        private int foundOrNew() {
            if (found == 0) {
                found = newVariable(holder, store.part(base, tail, store.size(base)));
            }
            return found;
        }

        private boolean failFind(int base) {
            if (trouble == NO_ARRAY) {
                return core.fail("no array: ", base);
            }
            cutPath(base);
            return core.fail("no room: ", store.part(base, 0, pathEnd));
        }

        private boolean failAct(String message, int base, int index) {
            int name = base;
            if (index != 0) {
                store.open();
                store.putPart(base, 0, ANY);
                store.put('(');
                store.putPart(index, 0, ANY);
                store.put(')');
                name = store.close();
            }
            return core.fail(message, name);
        }

        /** The ELEMENT of a variable, also one that isn't there but has WATCHES; 0 if there is none. */
        private int elementOf(int array, int index) {
            int e = store.get(array, FIRST);
            while (e != 0 && !store.same(store.get(e, NAME), index)) {
                e = store.get(e, NEXT_ONE);
            }
            return e;
        }

        private int newElement(int array, int index) {
            int e = store.newRecord(A_VARIABLE);
            store.set(e, NAME, index);
            addElement(array, e);
            return e;
        }

        private void addElement(int array, int e) {
            int last = store.get(array, LAST);
            store.set(e, NEXT_ONE, 0);
            if (last == 0) {
                store.set(array, FIRST, e);
            } else {
                store.set(last, NEXT_ONE, e);
            }
            store.set(array, LAST, e);
        }

        private void removeElement(int array, int e) {
            int before = 0;
            int one = store.get(array, FIRST);
            while (one != 0 && one != e) {
                before = one;
                one = store.get(one, NEXT_ONE);
            }
            if (one == 0) {
                return;
            }
            int next = store.get(e, NEXT_ONE);
            if (before == 0) {
                store.set(array, FIRST, next);
            } else {
                store.set(before, NEXT_ONE, next);
            }
            if (next == 0) {
                store.set(array, LAST, before);
            }
        }

        /** An ELEMENT of which nothing is known any more goes. */
        private void tidyElement(int array, int e) {
            boolean known = store.get(e, STATE) != NOT_THERE || store.get(e, WATCHES) != 0 || store.get(e, BUSY) != 0;
            if (e != array && !known) {
                removeElement(array, e);
            }
        }

        // ---- acts, by the name that was aimed at

        private boolean isFoundThere() {
            int state = store.get(found, STATE);
            if (trouble != 0 || key == 0) {
                return trouble == 0 && state != NOT_THERE;
            }
            return state == IS_ARRAY && store.get(elementOf(found, key), STATE) != NOT_THERE;
        }

        /** Whether the name has a VALUE or is an ARRAY; trouble tells if its room isn't there. */
        private boolean isThere() {
            find(core.level());
            return isFoundThere();
        }

        /** No letters, as the value of what isn't there; 0 with the ERROR if its room isn't there, either. */
        private int noneIfRoom() {
            if (trouble == NO_ROOM) {
                failFind(base);
                return 0;
            }
            return EMPTY;
        }

        /** Whether the name is an ARRAY, which found is then; trouble tells if its room isn't there. */
        private boolean isArray() {
            find(core.level());
            return trouble == 0 && key == 0 && store.get(found, STATE) == IS_ARRAY;
        }

        /** The VALUE of what was found; 0 if it has none. */
        private int foundValue() {
            int v = key == 0 ? found : store.get(found, STATE) == IS_ARRAY ? elementOf(found, key) : 0;
            return trouble == 0 && store.get(v, STATE) == HAS_VALUE ? store.get(v, VALUE_OF) : 0;
        }

        /** Reads the name, its WATCHES ahead of it: its VALUE; 0 with the ERROR. */
        private int read() {
            int b = base;
            int i = index;
            int done = NOTHING_DONE;
            if (find(core.level())) {
                int own = key == 0 ? found : elementOf(found, key);
                done = watch(READ, key == 0 ? 0 : found, own, store.get(own, WATCHES));
            }
            if (done == FAILED) {
                return 0;
            }
            if (done == ALL_DONE) {
                aim(b, i);
                find(core.level());
            }
            if (trouble != 0) {
                failFind(b);
                return 0;
            }
            int value = foundValue();
            int state = store.get(found, STATE);
            if (value == 0 && key != 0 && state == HAS_VALUE) {
                core.fail("no array: ", b);
            } else if (value == 0) {
                failAct(key == 0 && state == IS_ARRAY ? "is array: " : "no name: ", b, i);
            }
            return value;
        }

        /** Writes the name, its WATCHES behind it; false with the ERROR. */
        private boolean write(int value) {
            int b = base;
            int i = index;
            if (core.isHalted()) {
                return false;
            }
            if (!find(core.level())) {
                return failFind(b);
            }
            int v = foundOrNew();
            int state = store.get(v, STATE);
            if (key == 0 && state == IS_ARRAY) {
                return failAct("is array: ", b, i);
            }
            if (key != 0 && state == HAS_VALUE) {
                return core.fail("no array: ", b);
            }
            int own = key == 0 ? v : elementToWrite(v, key);
            store.set(own, STATE, HAS_VALUE);
            store.set(own, VALUE_OF, value);
            return watch(WRITE, key == 0 ? 0 : v, own, store.get(own, WATCHES)) != FAILED;
        }

        /** The ELEMENT; one that comes stands behind the others. */
        private int elementToWrite(int array, int index) {
            store.set(array, STATE, IS_ARRAY);
            int e = elementOf(array, index);
            boolean comes = store.get(e, STATE) == NOT_THERE;
            if (e == 0) {
                e = store.newRecord(A_VARIABLE);
                store.set(e, NAME, index);
            } else if (comes) {
                removeElement(array, e);
            }
            if (comes) {
                addElement(array, e);
            }
            return e;
        }

        /** Answers the VALUE that a name has, by no WATCH. */
        private void answer(int name) {
            aim(name);
            find(core.level());
            int value = foundValue();
            if (value != 0) {
                core.give(value);
            } else {
                core.fail("no name: ", name);
            }
        }

        /** Unsets the name, its WATCHES behind it; quietly if that asks for no ERROR where it isn't there. */
        private boolean unset(boolean quiet) {
            int b = base;
            int i = index;
            find(core.level());
            if (core.isHalted()) {
                return false;
            }
            if (!isFoundThere()) {
                return quiet || (trouble == NO_ROOM ? failFind(b) : failAct("no name: ", b, i));
            }
            unsets++;
            int array = key == 0 ? 0 : found;
            int own = key == 0 ? found : elementOf(found, key);
            int watches = store.get(own, WATCHES);
            clearVariable(own, unsets);
            watch(UNSET, array, own, watches);
            if (array != 0) {
                tidyElement(array, own);
            }
            return !core.isHalted();
        }

        /** A variable isn't there any more, nor are its ELEMENTS; its WATCHES are removed by the act of this number. */
        private void clearVariable(int v, int act) {
            store.set(v, STATE, NOT_THERE);
            store.set(v, VALUE_OF, 0);
            removeWatches(v, act);
            int e = store.get(v, FIRST);
            store.set(v, FIRST, 0);
            store.set(v, LAST, 0);
            while (e != 0) {
                int next = store.get(e, NEXT_ONE);
                store.set(e, STATE, NOT_THERE);
                store.set(e, VALUE_OF, 0);
                removeWatches(e, -1);
                // One that an act is about is known by that still.
                if (store.get(e, BUSY) != 0) {
                    addElement(v, e);
                }
                e = next;
            }
        }

        private void removeWatches(int v, int act) {
            for (int w = store.get(v, WATCHES); w != 0; w = store.get(w, NEXT_ONE)) {
                store.set(w, REMOVED, act);
            }
            store.set(v, WATCHES, 0);
        }

        // ---- WATCHES

        private void addWatch(int v, int acts, int command) {
            int w = store.newRecord(A_WATCH);
            store.set(w, ACTS, acts);
            store.set(w, NAME, command);
            store.set(w, NEXT_ONE, store.get(v, WATCHES));
            store.set(v, WATCHES, w);
        }

        private void removeWatch(int v, int acts, int command) {
            int w = store.get(v, WATCHES);
            while (w != 0 && (store.get(w, ACTS) != acts || !store.same(store.get(w, NAME), command))) {
                w = store.get(w, NEXT_ONE);
            }
            if (w != 0) {
                unlink(v, WATCHES, w);
                store.set(w, REMOVED, -1);
            }
        }

        /**
         * Does the WATCHES of an act by the name that was aimed at: those of the array, if it is of an ELEMENT, then
         * its own, which begin with watches. What has become of it. The runner runs them within its own calls.
         */
        private int watch(int act, int array, int own, int watches) {
            int b = base;
            int i = index;
            int first = awake(act, array, store.get(array, WATCHES));
            int second = awake(act, own, watches);
            if (first == 0 && second == 0) {
                return NOTHING_DONE;
            }
            if (watching >= WATCHES_LIMIT || core.depth() >= DEEPEST) {
                if (act != UNSET) {
                    core.fail("too deep", EMPTY);
                }
                return act == UNSET ? NOTHING_DONE : FAILED;
            }
            watching++;
            // What is still needed behind the WATCHES stands on the stack, where it is known to be kept.
            int place = core.top;
            core.push(b, i, array);
            core.push(own, first, second);
            core.push(0);
            int number = unsets;
            int busy = store.get(own, BUSY);
            store.set(own, BUSY, busy | IN_ACT);
            boolean fine = doWatches(act, first, array, number) && doWatches(act, second, own, number);
            store.set(own, BUSY, busy);
            core.top = place;
            watching--;
            if (fine) {
                core.give(EMPTY);
            } else if (!core.isHalted()) {
                core.fail("watch: ", core.answer);
            }
            return fine ? ALL_DONE : FAILED;
        }

        /**
         * Does a variable's WATCHES from the first that is for the act on, whose number it is if it is unset; false if
         * one ends it.
         */
        private boolean doWatches(int act, int first, int watched, int number) {
            int kept = core.top - WATCH_KEEPS;
            boolean fine = true;
            int busy = store.get(watched, BUSY);
            store.set(first == 0 ? 0 : watched, BUSY, busy | IN_WATCHES);
            for (int w = first; w != 0 && fine; w = store.get(w, NEXT_ONE)) {
                int removed = store.get(w, REMOVED);
                boolean due = removed == 0 || act == UNSET && removed == number;
                if (due && (store.get(w, ACTS) & act) != 0) {
                    core.put(kept + WATCH_KEEPS - 1, w);
                    aim(core.at(kept), core.at(kept + 1));
                    runner.runWatch(store.get(w, NAME), act);
                    fine = !core.isHalted() && (core.code == FINE || act == UNSET);
                }
            }
            store.set(first == 0 ? 0 : watched, BUSY, busy);
            return fine;
        }

        /** The first of these WATCHES that is for the act, if none of the variable's are being done; else 0. */
        private int awake(int act, int v, int watches) {
            int w = (store.get(v, BUSY) & IN_WATCHES) != 0 ? 0 : watches;
            while (w != 0 && (store.get(w, ACTS) & act) == 0) {
                w = store.get(w, NEXT_ONE);
            }
            return w;
        }

        // ---- LINKS

        /** Whether a name may become a LINK: it has no :: and no ( ). */
        private boolean isSimple(int name) {
            boolean simple = true;
            for (int i = 0; i < store.size(name); i++) {
                int c = store.letter(name, i);
                simple = simple && c != '(' && c != ')' && (c != ':' || store.letter(name, i + 1) != ':');
            }
            return simple;
        }

        /** Finds what a name without a PATH is in a room, for a LINK to it. */
        private void findInRoom(int room, int name) {
            aim(name, 0);
            key = 0;
            trouble = 0;
            tail = 0;
            holder = room;
            follow(variableIn(room, name, 0));
        }

        /** Makes a name of the level at hand a LINK to what was found; false with the ERROR. */
        private boolean makeLink(int name) {
            int level = core.level();
            boolean own = store.get(level, OWN) != 0;
            int target = foundOrNew();
            if (!isSimple(name) || !own && store.get(target, OWN) != 0) {
                return core.fail("bad name: ", name);
            }
            int in = own ? level : store.get(level, ROOM);
            int v = variableIn(in, name, 0);
            int state = store.get(v, STATE);
            if (state != NOT_THERE && state != IS_LINK) {
                return core.fail("is there: ", name);
            }
            if (v == target) {
                return core.fail("is itself: ", name);
            }
            v = v == 0 ? newVariable(in, name) : v;
            removeWatches(v, -1);
            store.set(v, STATE, IS_LINK);
            store.set(v, TARGET, target);
            store.set(v, VALUE_OF, key);
            return true;
        }
    }

    /** Runs what lies on the stack: does one thing at a time, which tells what is to be done next. */
    private static final class Runner {
        private final Core core;
        private final Store store;
        private final Cutter cutter;
        private final Formula formula;
        private final Names names;
        private final Lists lists;
        private Control control;
        private NameCommands nameCommands;
        private ValueCommands valueCommands;
        private Told called;
        private int letters;
        private int act;
        private int coroutine;
        private int coroutineFrame;
        private int running;

        private Runner(Names names, Cutter cutter, Formula formula) {
            this.core = names.core;
            this.store = names.store;
            this.cutter = cutter;
            this.formula = formula;
            this.names = names;
            this.lists = names.lists;
        }

        /** After the LIMIT: what was running is no more. */
        private void abandon() {
            int next = 0;
            for (int c = coroutine; c != 0; c = next) {
                next = store.get(c, OUTER);
                names.drop(c);
            }
            coroutine = 0;
            coroutineFrame = 0;
            running = 0;
            for (int level = store.get(names.ground, NEXT_ONE); level != 0; level = next) {
                next = store.get(level, NEXT_ONE);
                if (store.get(level, OWNER) == 0) {
                    names.endLevel(level);
                }
            }
        }

        /** Does a WATCH while the command at hand waits; how it ended is told by the core. */
        private void runWatch(int command, int act) {
            int args = core.args;
            int words = core.words;
            int task = core.task;
            core.script = command;
            this.act = act;
            core.task = DO_WATCH;
            run(core.frame);
            core.args = args;
            core.words = words;
            core.task = task;
        }

        /** Runs until all above a frame has ended. */
        private void run(int below) {
            boolean ended = false;
            for (int turn = 0; turn < TURNS && !ended && !core.isHalted(); turn++) {
                int task = core.task;
                // A command that tells nothing else has ended.
                core.task = DO_RESUME;
                switch (task) {
                    case DO_TOKEN: doToken(core.frame); break;
                    case DO_NEXT: nextCommand(core.frame); break;
                    case DO_WORD: nextWord(core.frame); break;
                    case DO_PART: nextPart(core.frame); break;
                    case DO_READ: readPart(core.frame); break;
                    case DO_RUN: makeWords(core.frame); break;
                    case DO_COMMAND: findCommand(); break;
                    case DO_NAMES: nameCommands.call(called); break;
                    case DO_LISTS: valueCommands.callList(called); break;
                    case DO_DICTIONARY: valueCommands.callDictionary(called); break;
                    case DO_LETTERS: valueCommands.callLetters(called); break;
                    case DO_CONTROL: control.call(called); break;
                    case DO_CALL: control.startCall(); break;
                    case DO_SCRIPT: beginScript(); break;
                    case DO_EXPRESSION: beginExpression(); break;
                    case DO_CUT: formula.cut(); break;
                    case DO_SUBST: beginSubst(); break;
                    case DO_ROUND: control.nextRound(); break;
                    case DO_PAIR: control.nextPair(); break;
                    case DO_FAULT: endFault(); break;
                    case DO_WATCH: beginWatch(); break;
                    default: break;
                }
                if (task == DO_RESUME && core.at(core.frame + KIND) > OPERAND_FRAME) {
                    control.resume(core.at(core.frame + KIND));
                } else if (task == DO_RESUME) {
                    resume(core.frame);
                }
                ended = core.task == DO_RESUME && core.frame == below;
            }
            core.halted = core.halted || !ended;
        }

        // ---- what begins

        private void beginScript() {
            if (core.depth() >= DEEPEST) {
                core.fail("too deep", EMPTY);
                endControl();
                return;
            }
            core.pushCode(SCRIPT_FRAME, core.depth() + 1, core.scriptLevel, core.script);
            core.task = DO_NEXT;
        }

        private void beginExpression() {
            core.pushCode(EXPRESSION_FRAME, core.depth(), core.level(), core.script);
            core.put(core.frame + PLACE, CODE);
            core.task = DO_CUT;
        }

        private void beginSubst() {
            cutter.begin(core.script, 0, Cutter.WHOLE, false);
            cutter.pass(NONE);
            if (cutter.fault != 0) {
                core.failFault(cutter.fault);
                return;
            }
            core.pushCode(SUBST_FRAME, core.depth(), core.level(), core.script);
            beginLetters(Cutter.WHOLE, 0);
        }

        /** Goes from part to part of a row of letters, in the frame at hand. */
        private void beginLetters(int kind, int from) {
            core.put(core.frame + WORD_AT, from);
            core.put(core.frame + RUN_AT, kind);
            cutter.begin(core.at(core.frame + SOURCE), from, kind, false);
            core.task = DO_PART;
        }

        private void beginWatch() {
            store.open();
            store.putPart(core.script, 0, ANY);
            store.put(BLANK);
            store.putElement(names.base, 0, store.size(names.base), true);
            store.put(BLANK);
            store.putElement(names.index, 0, store.size(names.index), false);
            store.putWord(act == READ ? " read" : act == WRITE ? " write" : " unset");
            int script = store.close();
            if (core.spend(1 + store.size(script))) {
                core.enter(script, core.level());
            }
        }

        /** What can't be cut has ended, and so has the command that began it. */
        private void endFault() {
            core.leave();
            endControl();
        }

        private void endControl() {
            if (core.at(core.frame + KIND) > OPERAND_FRAME) {
                core.leave();
            }
        }

        // ---- expressions

        private void doToken(int frame) {
            core.collect();
            int place = frame + core.at(frame + PLACE);
            int token = core.at(place);
            int a = core.at(place + 1);
            int b = core.at(place + 2);
            boolean fine = true;
            int length = 2;
            core.task = DO_TOKEN;
            switch (token) {
                case T_FINISH: finish(); return;
                case T_RAW: fine = takeRaw(frame, a, b); length = 3; break;
                case T_LETTERS: length = 3; break;
                case T_UNARY: fine = formula.workUnary(a); break;
                case T_BINARY: fine = formula.workBinary(a); break;
                case T_FUNCTION: fine = formula.workFunction(a, b); length = 3; break;
                case T_JUMP: length = a - core.at(frame + PLACE); break;
                default: fine = doTruth(frame, token, a); length = 0; break;
            }
            core.put(frame + PLACE, core.at(frame + PLACE) + length);
            if (token == T_LETTERS) {
                core.pushCode(OPERAND_FRAME, core.depth(), core.level(), core.at(frame + SOURCE));
                beginLetters(a, b);
            } else if (!fine) {
                core.leave();
            }
        }

        /** An operand that is told by its letters. */
        private boolean takeRaw(int frame, int a, int b) {
            store.open();
            store.putRaw(core.at(frame + SOURCE), a, b);
            int text = store.close();
            core.push(text);
            return core.spend(1 + store.size(text));
        }

        /** The tokens that ask for the truth of what is on top: && || ? : go on elsewhere if that is enough. */
        private boolean doTruth(int frame, int token, int elsewhere) {
            int truth = formula.takeTruth(core.pop());
            boolean enough = token == T_OR ? truth == 1 : token != T_TRUTH && truth == 0;
            if (token == T_TRUTH || enough && token != T_CHOOSE) {
                core.push(core.number(truth));
            }
            int length = token == T_TRUTH ? 1 : 2;
            core.put(frame + PLACE, enough ? past(frame, token, elsewhere) : core.at(frame + PLACE) + length);
            return truth >= 0;
        }

        /** Passes by all && or || that would ask for the truth that was just enough, and not need more, either. */
        private int past(int frame, int token, int elsewhere) {
            int place = elsewhere;
            for (int turn = 0; turn < core.top && token != T_CHOOSE && core.at(frame + place) == token; turn++) {
                place = core.at(frame + place + 1);
            }
            return place;
        }

        /** What an expression has come to. */
        private void finish() {
            int value = core.pop();
            core.leaveWith(store.isInteger(value, 0, ANY) ? core.number(store.number) : value);
        }

        // ---- letters

        /** Goes on to a part that is put in among letters, or to their end. */
        private void nextPart(int frame) {
            core.collect();
            core.task = DO_PART;
            int what = cutter.seek();
            if (what == Cutter.BRACKET) {
                int place = cutter.at;
                cutter.keep(core.at(frame + WORD_AT), lettersOf(frame));
                core.put(frame + PLACE, place);
                core.pushCode(BRACKET_FRAME, core.depth(), core.level(), core.at(frame + SOURCE));
                core.put(core.frame + PLACE, place + 1);
                core.task = DO_NEXT;
            } else if (what == Cutter.CLOSING) {
                closeLetters(frame);
            } else if (cutter.hasIndex()) {
                cutter.enter(cutter.name, Cutter.INDEX);
            } else {
                names.aim(store.part(cutter.text, cutter.name, cutter.nameEnd));
                core.task = DO_READ;
            }
        }

        private void closeLetters(int frame) {
            int text = gather(cutter.held - cutter.bottom);
            int kind = cutter.kind;
            if (kind == Cutter.INDEX) {
                names.aim(cutter.arrayName(), text);
                core.task = DO_READ;
            } else if (kind == Cutter.BARE || kind == Cutter.QUOTED) {
                endWord(frame, text);
            } else {
                core.leaveWith(text);
            }
        }

        /** The text that the values on top and the rows of letters between them are, which go. */
        private int gather(int many) {
            int bottom = core.top - many;
            int from = cutter.row;
            int to = cutter.at;
            if (many == 1 && from >= to) {
                return core.pop();
            }
            store.open();
            for (int i = bottom; i < bottom + many; i++) {
                int number = core.at(i);
                if (number >= TEXT) {
                    store.putPart(number, 0, ANY);
                } else {
                    i++;
                    store.putEscaped(cutter.text, number, core.at(i));
                }
            }
            store.putEscaped(cutter.text, from, to);
            int text = store.close();
            core.top = bottom;
            core.spend(many == 0 ? 0 : store.size(text));
            return text;
        }

        /** Reads the name that was aimed at: a part, unless there is an ERROR. */
        private void readPart(int frame) {
            int place = cutter.at;
            int begun = cutter.begun;
            int value = names.read();
            if (value == 0) {
                unwind(frame);
                return;
            }
            if (cutter.begun != begun) {
                comeBack(frame, place);
                cutter.seek();
            }
            boolean closes = store.letter(cutter.text, place) == ')';
            int behind = closes ? place + 1 : cutter.behind;
            addPart(value, closes ? cutter.leave() : place, behind);
        }

        /** Goes through the letters at hand again, up to a place at which something is put in among them. */
        private void comeBack(int frame, int place) {
            boolean bracket = core.at(frame + KIND) == BRACKET_FRAME;
            cutter.begin(core.at(frame + SOURCE), core.at(frame + WORD_AT), lettersOf(frame), bracket);
            if (!cutter.isKept(place)) {
                cutter.pass(place);
            }
        }

        /** What the letters of a frame begin with: a word of a command, or what was told of them. */
        private int lettersOf(int frame) {
            return core.at(frame + KIND) <= BRACKET_FRAME ? Cutter.WORD : core.at(frame + RUN_AT);
        }

        /** A value is there that was told by letters from .. to. */
        private void addPart(int value, int from, int to) {
            core.task = DO_PART;
            if (cutter.kind == Cutter.SINGLE) {
                core.leaveWith(value);
                return;
            }
            if (cutter.row < from) {
                core.push(cutter.row);
                core.push(from);
            }
            core.push(value);
            cutter.endPart(from, to);
            core.spend(1);
        }

        // ---- words

        /** Goes to the next command of a script or [ ]. */
        private void nextCommand(int frame) {
            boolean bracket = core.at(frame + KIND) == BRACKET_FRAME;
            core.top = frame + CODE;
            core.collect();
            cutter.begin(core.at(frame + SOURCE), core.at(frame + PLACE), Cutter.BETWEEN, bracket);
            cutter.passBlanks();
            int from = cutter.at;
            int c = store.letter(cutter.text, from);
            if (c < 0 || bracket && c == ']') {
                core.code = FINE;
                core.behind = from + 1;
                core.leave();
                return;
            }
            core.put(frame + PLACE, from);
            core.put(frame + WORD_AT, NONE_AT_HAND);
            core.put(frame + RUN_AT, NONE_AT_HAND);
            core.begun++;
            core.task = DO_WORD;
            // What stands in [ ] was passed by with the command around it.
            if (!bracket) {
                cutter.pass(NONE);
            }
            if (core.spend(1) && cutter.fault != 0) {
                core.failFault(cutter.fault);
                unwind(frame);
            }
        }

        /** Goes on to the next word that isn't letters alone; those that are need not be made until all are there. */
        private void nextWord(int frame) {
            int size = store.size(core.at(frame + SOURCE));
            boolean bracket = core.at(frame + KIND) == BRACKET_FRAME;
            cutter.begin(core.at(frame + SOURCE), core.at(frame + PLACE), Cutter.BETWEEN, bracket);
            for (int i = 0; i <= size && cutter.findWord(); i++) {
                int from = cutter.at;
                if (!cutter.isPlainWord()) {
                    core.put(frame + WORD_AT, from);
                    core.task = DO_PART;
                    return;
                }
                if (cutter.spread && lists.elements(plainWord()) < 0) {
                    unwind(frame);
                    return;
                }
                if (core.at(frame + RUN_AT) < 0) {
                    core.put(frame + RUN_AT, from);
                }
            }
            int c = store.letter(cutter.text, cutter.at);
            core.put(frame + PLACE, c == LINE || c == ';' ? cutter.at + 1 : cutter.at);
            core.task = DO_RUN;
        }

        /** The text of the word that was just passed by. */
        private int plainWord() {
            store.open();
            if (cutter.braced) {
                store.putRaw(cutter.text, cutter.row, cutter.rowEnd);
            } else {
                store.putEscaped(cutter.text, cutter.row, cutter.rowEnd);
            }
            return store.close();
        }

        /** The word at hand is there: it waits with those that are letters alone ahead of it. */
        private void endWord(int frame, int text) {
            if (core.at(frame + RUN_AT) >= 0) {
                core.push(core.at(frame + RUN_AT));
                core.push(core.at(frame + WORD_AT));
            }
            if (cutter.spread) {
                if (lists.elements(text) < 0) {
                    unwind(frame);
                    return;
                }
                core.push(ELEMENTS_OF);
            }
            core.push(text);
            core.put(frame + PLACE, cutter.kind == Cutter.QUOTED ? cutter.at + 1 : cutter.at);
            core.put(frame + WORD_AT, NONE_AT_HAND);
            core.put(frame + RUN_AT, NONE_AT_HAND);
            core.task = DO_WORD;
        }

        /** All words of a command are there: they are made, as far as WORK is left for them. */
        private void makeWords(int frame) {
            core.collect();
            int first = frame + CODE;
            int end = core.top;
            int i = first;
            letters = 0;
            while (i < end && !core.isHalted()) {
                int number = core.at(i);
                if (number >= TEXT) {
                    addWord(number);
                    i++;
                } else if (number == ELEMENTS_OF) {
                    addElements(core.at(i + 1));
                    i += 2;
                } else {
                    addPlain(frame, number, core.at(i + 1));
                    i += 2;
                }
            }
            if (core.at(frame + RUN_AT) >= 0) {
                addPlain(frame, core.at(frame + RUN_AT), core.at(frame + PLACE));
            }
            core.args = first;
            core.words = core.top - end;
            for (int k = 0; k < core.words; k++) {
                core.put(first + k, core.at(end + k));
            }
            core.top = first + core.words;
            core.put(frame + WORD_AT, COMMAND_RUNS);
            core.spend(letters);
            core.give(EMPTY);
            core.task = core.words == 0 ? DO_RESUME : DO_COMMAND;
        }

        /** A word more: where no WORK is left for it, the evaluation ends. */
        private void addWord(int text) {
            letters += 1 + store.size(text);
            if (letters > WORK_LIMIT - core.work) {
                core.halted = true;
            } else {
                core.push(text);
            }
        }

        private void addElements(int text) {
            int size = store.size(text);
            lists.begin(text, 0);
            for (int i = 0; i <= size && !core.isHalted() && lists.next(); i++) {
                addWord(lists.element());
            }
        }

        /** The words that are letters alone, from .. to. */
        private void addPlain(int frame, int from, int to) {
            boolean bracket = core.at(frame + KIND) == BRACKET_FRAME;
            cutter.begin(core.at(frame + SOURCE), from, Cutter.BETWEEN, bracket);
            for (int i = from; i < to && !core.isHalted() && cutter.findWord() && cutter.at < to; i++) {
                cutter.isPlainWord();
                if (cutter.spread) {
                    addElements(plainWord());
                } else {
                    addWord(plainWord());
                }
            }
        }

        /** What is done in a frame ends with a code: so does its command that is begun. */
        private void unwind(int frame) {
            if (core.at(frame + KIND) <= BRACKET_FRAME) {
                core.spend(store.size(core.answer));
            }
            core.leave();
        }

        // ---- commands

        private void findCommand() {
            int name = core.word(0);
            int command = names.command(name);
            command = command == 0 ? unknown() : command;
            core.give(EMPTY);
            int type = store.get(command, TYPE);
            if (command == 0) {
                core.fail("no command: ", name);
            } else if (type == PROCEDURE) {
                control.callProcedure(command);
            } else if (type == COROUTINE) {
                control.callCoroutine(command);
            } else if (type >= 0 && type < ALL_TOLD.length) {
                callTold(ALL_TOLD[type]);
            }
        }

        /** The command unknown, if there is one: its name comes ahead of the words. */
        private int unknown() {
            int command = store.get(names.root, COMMANDS);
            while (command != 0 && !store.is(store.get(command, NAME), "unknown")) {
                command = store.get(command, NEXT_ONE);
            }
            if (command != 0) {
                core.push(0);
                for (int i = core.top - 1; i > core.args; i--) {
                    core.put(i, core.at(i - 1));
                }
                core.put(core.args, store.get(command, NAME));
                core.words++;
            }
            return command;
        }

        /** A command that the house knows by itself is to be done, if its words are as they must be. */
        private void callTold(Told command) {
            called = command;
            int given = core.words - 1;
            if (command.home == DO_COMMAND && given > 0) {
                called = wordOf(command.text);
                given--;
            }
            if (called == null) {
                core.fail("no such: ", core.word(1));
            } else if (given < called.least || given > called.most) {
                core.failArguments();
            } else {
                core.task = called.home;
            }
        }

        /** What the second word means in a family; null if it isn't told there. */
        private Told wordOf(String family) {
            for (int i = 0; i < ALL_TOLD.length; i++) {
                if (ALL_TOLD[i].family.equals(family) && store.is(core.word(1), ALL_TOLD[i].text)) {
                    return ALL_TOLD[i];
                }
            }
            return null;
        }

        /** What the frame at hand has begun has ended. */
        private void resume(int frame) {
            if (core.code != FINE) {
                unwind(frame);
            } else if (core.at(frame + KIND) == EXPRESSION_FRAME) {
                core.push(core.answer);
                core.spend(1 + store.size(core.answer));
                core.task = DO_TOKEN;
            } else if (core.at(frame + WORD_AT) == COMMAND_RUNS) {
                core.spend(store.size(core.answer));
                core.task = DO_NEXT;
            } else {
                int place = core.at(frame + PLACE);
                comeBack(frame, place);
                addPart(core.answer, place, core.behind);
            }
        }
    }

    /** The commands that evaluate scripts, end with codes, or make commands. */
    private static final class Control {
        // What a loop waits for.
        private static final int TEST = 0;
        private static final int INNER = 1;
        private static final int STEP = 2;
        private static final int START = 3;

        private final Runner runner;
        private final Core core;
        private final Store store;
        private final Lists lists;
        private final Names names;
        private int formals;
        private int body;
        private int home;
        private int skip;

        private Control(Runner runner) {
            this.runner = runner;
            this.core = runner.core;
            this.store = runner.store;
            this.lists = runner.lists;
            this.names = runner.names;
        }

        private void call(Told command) {
            switch (command) {
                case FOREACH: startEach(0); break;
                case LMAP: startEach(1); break;
                case SUBST: startSubst(); break;
                case EVAL: core.enter(lists.script(1), core.level()); break;
                case EXPR: startExpression(); break;
                case IF: startIf(); break;
                case WHILE: startLoop(WHILE_FRAME, TEST); break;
                case FOR: startLoop(FOR_FRAME, START); break;
                case SWITCH: startSwitch(); break;
                case CATCH: startCatch(); break;
                case TRY: startTry(); break;
                case ERROR_WITH: endWith(ERROR, core.word(1)); break;
                case BREAK_OFF: endWith(BREAK, EMPTY); break;
                case GO_ON: endWith(CONTINUE, EMPTY); break;
                case RETURN_WITH: startReturn(); break;
                case UPLEVEL: startUplevel(); break;
                case PROC: makeProcedure(); break;
                case APPLY: startApply(); break;
                case RENAME: rename(); break;
                case COROUTINE_NEW: startCoroutine(); break;
                case YIELD: yieldNow(); break;
                case NAMESPACE_EVAL: startRoom(); break;
                case NAMESPACE_CURRENT: core.give(names.fullName(names.roomAtHand(), 0)); break;
                case NAMESPACE_EXISTS: core.giveTruth(roomOfWord() != 0); break;
                case NAMESPACE_DELETE: deleteRoom(); break;
                case NAMESPACE_QUALIFIERS: giveQualifiers(); break;
                default: core.give(names.tailOf(core.word(2))); break;
            }
        }

        private void resume(int kind) {
            core.words = core.at(core.frame + WORDS);
            core.args = core.frame - core.words;
            switch (kind) {
                case IF_FRAME: resumeIf(); break;
                case WHILE_FRAME: resumeLoop(1, 2, 0); break;
                case FOR_FRAME: resumeLoop(2, 4, 3); break;
                case EACH_FRAME: resumeEach(); break;
                case CATCH_FRAME: resumeCatch(); break;
                case TRY_FRAME: resumeTry(); break;
                case CALL_FRAME: resumeCall(); break;
                case ROOM_FRAME: resumeRoom(); break;
                case PAIRS_FRAME: resumePairs(); break;
                default: resumeCoroutine(); break;
            }
        }

        private void endWith(int code, int answer) {
            core.code = code;
            core.answer = answer;
        }

        // ---- expr, subst, if, switch

        private void startSubst() {
            core.script = core.word(1);
            core.task = DO_SUBST;
        }

        private void startExpression() {
            int text = core.word(1);
            if (core.words > 2) {
                store.open();
                for (int i = 1; i < core.words; i++) {
                    if (i > 1) {
                        store.put(BLANK);
                    }
                    store.putPart(core.word(i), 0, ANY);
                }
                text = store.close();
            }
            core.enterExpression(text);
        }

        /** Whether the words of if are as they must be. */
        private boolean isIf() {
            int i = 1;
            while (i < core.words) {
                i = scriptOfIf(i) + 1;
                if (i >= core.words) {
                    return i == core.words;
                }
                if (!core.isWord(i, "elseif")) {
                    return (core.isWord(i, "else") ? i + 1 : i) == core.words - 1;
                }
                i++;
            }
            return false;
        }

        /** Where the script behind the test at i stands. */
        private int scriptOfIf(int i) {
            return core.isWord(i + 1, "then") ? i + 2 : i + 1;
        }

        private void startIf() {
            if (!isIf()) {
                core.failArguments();
                return;
            }
            core.pushControl(IF_FRAME);
            core.push(1);
            core.enterExpression(core.word(1));
        }

        private void resumeIf() {
            int place = core.at(core.frame + STAGE);
            int truth = core.code != FINE ? -1 : runner.formula.takeTruth(core.answer);
            if (truth < 0) {
                core.leave();
                return;
            }
            int script = scriptOfIf(place);
            if (truth == 0) {
                script++;
                if (core.isWord(script, "elseif")) {
                    core.put(core.frame + STAGE, script + 1);
                    core.enterExpression(core.word(script + 1));
                    return;
                }
                script += core.isWord(script, "else") ? 1 : 0;
            }
            core.leaveWith(EMPTY);
            if (script < core.words) {
                core.enter(core.word(script), core.level());
            }
        }

        private void startSwitch() {
            boolean glob = core.isWord(1, "-glob");
            int i = glob || core.isWord(1, "-exact") ? 2 : 1;
            i += core.isWord(i, "--") ? 1 : 0;
            int many = core.words - i - 1;
            int bottom = core.args + i + 1;
            if (many == 1) {
                bottom = core.top;
                many = lists.pushAll(core.word(i + 1));
                if (many < 0) {
                    return;
                }
            }
            core.top = core.args + core.words;
            if (many < 2 || many % 2 != 0) {
                core.failArguments();
                return;
            }
            int script = choose(core.word(i), bottom, many, glob);
            if (script != 0) {
                core.enter(script, core.level());
            }
        }

        /** The script of the first pattern that fits; 0 if none does. */
        private int choose(int text, int bottom, int many, boolean glob) {
            for (int i = 0; i < many; i += 2) {
                int pattern = core.at(bottom + i);
                boolean all = i == many - 2 && store.is(pattern, "default");
                if (all || (glob ? store.fits(pattern, text) : store.same(pattern, text))) {
                    int script = i + 1;
                    while (script < many - 1 && store.is(core.at(bottom + script), "-")) {
                        script += 2;
                    }
                    return core.at(bottom + script);
                }
            }
            return 0;
        }

        // ---- loops

        private void startLoop(int kind, int stage) {
            core.pushControl(kind);
            core.push(stage);
            if (stage == TEST) {
                core.enterExpression(core.word(1));
            } else {
                core.enter(core.word(1), core.level());
            }
        }

        /** Goes on with a while or for, whose test, body and step, 0 if there is none, are these words. */
        private void resumeLoop(int test, int inner, int step) {
            int stage = core.at(core.frame + STAGE);
            int code = core.code;
            if (stage == TEST) {
                int truth = code != FINE ? -1 : runner.formula.takeTruth(core.answer);
                if (truth > 0) {
                    core.put(core.frame + STAGE, INNER);
                    core.enter(core.word(inner), core.level());
                } else if (truth == 0) {
                    core.leaveWith(EMPTY);
                } else {
                    core.leave();
                }
            } else if (code == BREAK && stage != START) {
                core.leaveWith(EMPTY);
            } else if (code != FINE && (code != CONTINUE || stage != INNER)) {
                core.leave();
            } else if (stage == INNER && step != 0) {
                core.put(core.frame + STAGE, STEP);
                core.enter(core.word(step), core.level());
            } else {
                core.put(core.frame + STAGE, TEST);
                core.enterExpression(core.word(test));
            }
        }

        private void startEach(int gathers) {
            int pairs = (core.words - 2) / 2;
            if (core.words % 2 != 0) {
                core.failArguments();
                return;
            }
            for (int i = 0; i < pairs; i++) {
                int many = lists.elements(core.word(2 * i + 1));
                if (many == 0) {
                    core.fail("no names", EMPTY);
                }
                if (many <= 0) {
                    return;
                }
            }
            int rounds = 0;
            for (int i = 0; i < pairs; i++) {
                int each = Math.max(1, lists.elements(core.word(2 * i + 1)));
                int many = lists.elements(core.word(2 * i + 2));
                if (many < 0) {
                    return;
                }
                rounds = Math.max(rounds, (many + each - 1) / each);
            }
            core.pushControl(EACH_FRAME);
            core.push(0, rounds, gathers);
            for (int i = 0; i < pairs; i++) {
                core.push(0);
            }
            core.task = DO_ROUND;
        }

        /** The next round of foreach and the like: what each list gives next stands in the frame. */
        private void nextRound() {
            int frame = core.frame;
            int pairs = (core.words - 2) / 2;
            int round = core.at(frame + STAGE);
            if (round >= core.at(frame + ROUNDS)) {
                endEach();
                return;
            }
            core.put(frame + STAGE, round + 1);
            for (int i = 0; i < pairs; i++) {
                int nameList = core.word(2 * i + 1);
                int most = store.size(nameList);
                lists.begin(nameList, 0);
                for (int k = 0; k <= most && lists.next(); k++) {
                    int name = lists.element();
                    int nameAt = lists.at;
                    lists.begin(core.word(2 * i + 2), core.at(frame + CURSORS + i));
                    int value = lists.next() ? lists.element() : EMPTY;
                    core.put(frame + CURSORS + i, lists.at);
                    names.aim(name);
                    if (!names.write(value)) {
                        core.leave();
                        return;
                    }
                    lists.begin(nameList, nameAt);
                }
            }
            core.enter(core.word(core.words - 1), core.level());
        }

        private void endEach() {
            int frame = core.frame;
            int pairs = (core.words - 2) / 2;
            boolean gathers = core.at(frame + GATHERS) != 0;
            core.leaveWith(gathers ? lists.popWritten(frame + CURSORS + pairs) : EMPTY);
        }

        private void resumeEach() {
            if (core.code == BREAK) {
                core.put(core.frame + ROUNDS, 0);
            } else if (core.code == FINE && core.at(core.frame + GATHERS) != 0) {
                core.push(core.answer);
            }
            if (core.code == FINE || core.code == BREAK || core.code == CONTINUE) {
                core.task = DO_ROUND;
            } else {
                core.leave();
            }
        }

        /** Begins dict for: keys and values by turns stand in its frame, so that no list of them is written. */
        private void startPairs() {
            core.pushControl(PAIRS_FRAME);
            core.push(0);
            core.push(0);
            int many = lists.pushPairs(core.word(3));
            if (many < 0) {
                core.leave();
                return;
            }
            core.put(core.frame + ROUNDS, many / 2);
            core.task = DO_PAIR;
        }

        /** The next round of dict for. */
        private void nextPair() {
            int frame = core.frame;
            int round = core.at(frame + STAGE);
            if (round >= core.at(frame + ROUNDS)) {
                core.leaveWith(EMPTY);
                return;
            }
            core.put(frame + STAGE, round + 1);
            for (int i = 0; i < 2; i++) {
                names.aim(lists.elementAt(core.word(2), i));
                if (!names.write(core.at(frame + KEYS + 2 * round + i))) {
                    core.leave();
                    return;
                }
            }
            core.enter(core.word(4), core.level());
        }

        private void resumePairs() {
            if (core.code == BREAK) {
                core.leaveWith(EMPTY);
            } else if (core.code == FINE || core.code == CONTINUE) {
                core.task = DO_PAIR;
            } else {
                core.leave();
            }
        }

        // ---- codes

        private void startCatch() {
            core.pushControl(CATCH_FRAME);
            core.enter(core.word(1), core.level());
        }

        private void resumeCatch() {
            int code = core.code;
            boolean fine = true;
            if (core.words > 2) {
                names.aim(core.word(2));
                fine = names.write(core.answer);
            }
            if (fine) {
                core.giveNumber(code);
            }
            core.leave();
        }

        private void startTry() {
            if (!core.isWord(2, "finally")) {
                core.failArguments();
                return;
            }
            core.pushControl(TRY_FRAME);
            for (int i = STAGE; i <= KEPT_THEN; i++) {
                core.push(0);
            }
            core.enter(core.word(1), core.level());
        }

        private void resumeTry() {
            int frame = core.frame;
            if (core.at(frame + STAGE) == 0) {
                core.put(frame + STAGE, 1);
                core.put(frame + KEPT_CODE, core.code);
                core.put(frame + KEPT_ANSWER, core.answer);
                core.put(frame + KEPT_LEFT, core.left);
                core.put(frame + KEPT_THEN, core.then);
                core.enter(core.word(3), core.level());
                return;
            }
            if (core.code == FINE) {
                endWith(core.at(frame + KEPT_CODE), core.at(frame + KEPT_ANSWER));
                core.left = core.at(frame + KEPT_LEFT);
                core.then = core.at(frame + KEPT_THEN);
            }
            core.leave();
        }

        private void startReturn() {
            int codeAt = 0;
            int levelAt = 0;
            int i = 1;
            while (i + 1 < core.words) {
                if (codeAt == 0 && core.isWord(i, "-code")) {
                    codeAt = i + 1;
                } else if (levelAt == 0 && core.isWord(i, "-level")) {
                    levelAt = i + 1;
                } else {
                    core.failArguments();
                    return;
                }
                i += 2;
            }
            boolean codeFirst = codeAt < levelAt;
            if (codeFirst && !isCode(codeAt) || !isReturnLevel(levelAt) || !codeFirst && !isCode(codeAt)) {
                return;
            }
            int code = codeOf(codeAt);
            long level = levelAt == 0 ? 1 : returnLevel(levelAt);
            endWith(level == 0 ? code : RETURN, i < core.words ? core.word(i) : EMPTY);
            // More than there are levels is as much as any number more.
            core.left = level == 0 ? 1 : (int) Math.min(level, 1 << 20);
            core.then = level == 0 ? 0 : code;
        }

        private boolean isCode(int i) {
            int text = core.word(i);
            boolean number = store.isInteger(text, 0, ANY) && store.number == (int) store.number;
            return i == 0 || number || wordCode(text) >= 0 || core.fail("bad code: ", text);
        }

        private int codeOf(int i) {
            int text = core.word(i);
            int code = i == 0 ? FINE : wordCode(text);
            return code < 0 && store.isInteger(text, 0, ANY) ? (int) store.number : code;
        }

        private int wordCode(int text) {
            if (store.is(text, "ok")) {
                return FINE;
            }
            if (store.is(text, "error")) {
                return ERROR;
            }
            if (store.is(text, "return")) {
                return RETURN;
            }
            return store.is(text, "break") ? BREAK : store.is(text, "continue") ? CONTINUE : -1;
        }

        private boolean isReturnLevel(int i) {
            return i == 0 || returnLevel(i) >= 0 || core.fail("bad level: ", core.word(i));
        }

        private long returnLevel(int i) {
            return store.isInteger(core.word(i), 0, ANY) ? store.number : -1;
        }

        // ---- levels, procedures

        private void startUplevel() {
            boolean isTold = core.words > 2 && names.isLevel(core.word(1));
            int level = names.levelBy(isTold ? core.word(1) : core.number(1));
            if (level != 0) {
                core.enter(lists.script(isTold ? 2 : 1), level);
            }
        }

        private void makeProcedure() {
            int name = core.word(1);
            int room = names.homeOf(name);
            if (room == 0) {
                return;
            }
            int command = names.commandIn(room, name, names.tail);
            if (isRunning(command)) {
                core.fail("is running: ", name);
                return;
            }
            int bottom = core.top;
            if (!pushFormals(core.word(2))) {
                return;
            }
            if (command == 0) {
                command = names.addCommand(room, names.tailOf(name), PROCEDURE);
            } else {
                names.forget(command);
                names.setType(command, PROCEDURE);
            }
            keepFormals(command, bottom);
            store.set(command, BODY, core.word(3));
        }

        private boolean isRunning(int command) {
            return store.get(command, TYPE) == COROUTINE && store.get(command, IS_RUNNING) != 0;
        }

        /** Pushes each formal's name and its default, 0 without one: formals tells how many; false with the ERROR. */
        private boolean pushFormals(int text) {
            int bottom = core.top;
            int size = store.size(text);
            formals = lists.elements(text);
            int place = 0;
            for (int i = 0; i <= size && i < formals; i++) {
                lists.begin(text, place);
                lists.next();
                int formal = lists.element();
                place = lists.at;
                if (!pushFormal(formal)) {
                    core.top = bottom;
                    return core.fail("bad formal: ", formal);
                }
            }
            return formals >= 0;
        }

        private boolean pushFormal(int formal) {
            int size = store.size(formal);
            int name = EMPTY;
            int many = 0;
            lists.begin(formal, 0);
            for (int i = 0; i <= size && lists.next(); i++) {
                int text = i < 2 ? lists.element() : EMPTY;
                name = i == 0 ? text : name;
                core.push(text);
                many++;
            }
            boolean fine = lists.fault == 0 && (many == 1 || many == 2) && store.size(name) > 0;
            for (int i = 0; i < store.size(name) && fine; i++) {
                fine = store.letter(name, i) != '(' && store.letter(name, i) != ':';
            }
            if (many == 1) {
                core.push(0);
            }
            return fine;
        }

        /** Keeps the formals that stand from a place on with a procedure, so that no call makes them anew. */
        private void keepFormals(int command, int bottom) {
            int last = command;
            store.set(command, MANY_FORMALS, formals);
            store.set(command, FORMALS, 0);
            for (int i = 0; i < 2 * formals; i++) {
                int cell = PAIRS + i % (CELLS - PAIRS);
                if (cell == PAIRS) {
                    int some = store.newRecord(SOME_FORMALS);
                    store.set(last, i == 0 ? FORMALS : NEXT_ONE, some);
                    last = some;
                }
                store.set(last, cell, core.at(bottom + i));
            }
            core.top = bottom;
        }

        /** Pushes the formals of a procedure: how many. */
        private int pushKept(int command) {
            int many = store.get(command, MANY_FORMALS);
            int some = store.get(command, FORMALS);
            for (int i = 0; i < 2 * many; i++) {
                int cell = PAIRS + i % (CELLS - PAIRS);
                some = i > 0 && cell == PAIRS ? store.get(some, NEXT_ONE) : some;
                core.push(store.get(some, cell));
            }
            return many;
        }

        private void callProcedure(int command) {
            formals = pushKept(command);
            body = store.get(command, BODY);
            home = store.get(command, ROOM);
            skip = 1;
            core.task = DO_CALL;
        }

        /** Calls what body and home tell: its formals are on top; the words behind the first ones are for them. */
        private void startCall() {
            int many = formals;
            int bottom = core.top - 2 * many;
            if (!takeArguments(bottom, many)) {
                core.top = bottom;
                core.failArguments();
                return;
            }
            if (core.depth() >= DEEPEST) {
                core.top = bottom;
                core.fail("too deep", EMPTY);
                return;
            }
            if (!core.spend(many) || !takeOthers(bottom, many)) {
                return;
            }
            int level = names.newLevel(home, 1);
            for (int i = bottom; i < bottom + 2 * many; i += 2) {
                int v = names.variableIn(level, core.at(i), 0);
                v = v == 0 ? names.newVariable(level, core.at(i)) : v;
                store.set(v, STATE, HAS_VALUE);
                store.set(v, VALUE_OF, core.at(i + 1));
            }
            core.top = bottom;
            beginLevel(CALL_FRAME, level, body);
        }

        private void beginLevel(int kind, int level, int script) {
            core.pushControl(kind);
            core.push(level);
            store.set(level, CALLED_AT, core.frame - runner.coroutineFrame);
            core.enter(script, level);
        }

        /**
         * Puts each formal's value in place of its default, but for the list that args gets; false if there are too few
         * or too many words for them.
         */
        private boolean takeArguments(int bottom, int many) {
            int word = skip;
            for (int i = 0; i < many; i++) {
                int place = bottom + 2 * i + 1;
                if (i == many - 1 && store.is(core.at(place - 1), "args")) {
                    core.put(place, EMPTY);
                    word = Math.max(word, core.words);
                } else if (word < core.words) {
                    core.put(place, core.word(word));
                    word++;
                }
                if (core.at(place) == 0) {
                    return false;
                }
            }
            return word >= core.words;
        }

        /** Writes the list that the last formal gets if it is args: the words that the others leave; false by the LIMIT. */
        private boolean takeOthers(int bottom, int many) {
            int last = bottom + 2 * many - 2;
            if (many > 0 && store.is(core.at(last), "args")) {
                int first = skip + many - 1;
                core.put(last + 1, lists.written(core.args + first, core.words - first));
            }
            return !core.isHalted();
        }

        /** What a RETURN that leaves a procedure or coroutine becomes. */
        private void endReturn() {
            if (core.code != RETURN) {
                return;
            }
            core.left--;
            if (core.left <= 0) {
                core.code = core.then;
                core.left = 1;
                core.then = 0;
            }
        }

        private void resumeCall() {
            names.endLevel(core.at(core.frame + NEW_LEVEL));
            if (core.code == BREAK || core.code == CONTINUE) {
                core.fail("code ", core.number(core.code));
            } else {
                endReturn();
            }
            core.leave();
        }

        private void startApply() {
            int lambda = core.word(1);
            int bottom = core.top;
            int many = lists.pushAll(lambda);
            int path = many == 3 ? core.at(bottom + 2) : EMPTY;
            int listed = core.at(bottom);
            body = core.at(bottom + 1);
            core.top = bottom;
            if (many >= 0 && many != 2 && many != 3) {
                core.fail("no lambda: ", lambda);
                return;
            }
            if (many < 0 || !pushFormals(listed)) {
                return;
            }
            home = names.roomBy(path, store.size(path), names.root);
            if (home == 0) {
                core.top = bottom;
                core.fail("no room: ", path);
                return;
            }
            skip = 2;
            core.task = DO_CALL;
        }

        private void rename() {
            int name = core.word(1);
            int other = core.word(2);
            int command = names.command(name);
            if (command == 0) {
                core.fail("no command: ", name);
                return;
            }
            if (store.size(other) == 0) {
                if (isRunning(command)) {
                    core.fail("is running: ", name);
                } else {
                    names.drop(command);
                }
                return;
            }
            int room = names.homeOf(other);
            if (room == 0) {
                return;
            }
            if (names.commandIn(room, other, names.tail) != 0) {
                core.fail("is there: ", other);
                return;
            }
            names.unlink(store.get(command, ROOM), COMMANDS, command);
            store.set(command, NAME, names.tailOf(other));
            names.linkCommand(room, command);
        }

        // ---- rooms

        private void startRoom() {
            if (core.depth() >= DEEPEST) {
                core.fail("too deep", EMPTY);
                return;
            }
            int script = lists.script(3);
            if (!core.isHalted()) {
                beginLevel(ROOM_FRAME, names.newLevel(names.makeRoom(core.word(2)), 0), script);
            }
        }

        private void resumeRoom() {
            names.endLevel(core.at(core.frame + NEW_LEVEL));
            core.leave();
        }

        private int roomOfWord() {
            return names.roomBy(core.word(2), store.size(core.word(2)), names.roomAtHand());
        }

        private void deleteRoom() {
            int room = roomOfWord();
            if (room == 0) {
                core.fail("no room: ", core.word(2));
            } else if (names.isInUse(room)) {
                core.fail("in use: ", core.word(2));
            } else {
                names.deleteRoom(room);
            }
        }

        private void giveQualifiers() {
            names.cutPath(core.word(2));
            core.give(names.pathEnd < 0 ? EMPTY : store.part(core.word(2), 0, names.pathEnd));
        }

        // ---- coroutines

        private void startCoroutine() {
            int name = core.word(1);
            int room = names.homeOf(name);
            if (room == 0) {
                return;
            }
            if (names.commandIn(room, name, names.tail) != 0) {
                core.fail("is there: ", name);
                return;
            }
            if (runner.running >= RUNNING_LIMIT) {
                core.fail("too deep", EMPTY);
                return;
            }
            enterCoroutine(names.addCommand(room, names.tailOf(name), COROUTINE));
            core.pushCode(SCRIPT_FRAME, 1, names.ground, EMPTY);
            for (int i = 2; i < core.words; i++) {
                core.push(core.word(i));
            }
            core.begun++;
            core.spend(1);
            core.task = DO_RUN;
        }

        private void enterCoroutine(int command) {
            core.pushControl(COROUTINE_FRAME);
            core.push(command, names.watching, runner.coroutineFrame);
            store.set(command, IS_RUNNING, 1);
            store.set(command, OUTER, runner.coroutine);
            runner.coroutine = command;
            runner.coroutineFrame = core.frame;
            runner.running++;
        }

        /** The coroutine at hand stops or ends: the one that made it run is at hand again. */
        private void leaveCoroutine() {
            int command = runner.coroutine;
            core.frame = runner.coroutineFrame;
            runner.coroutine = store.get(command, OUTER);
            runner.coroutineFrame = core.at(core.frame + FRAME_THEN);
            runner.running--;
            store.set(command, IS_RUNNING, 0);
            store.set(command, OUTER, 0);
            core.leave();
        }

        private void resumeCoroutine() {
            int command = core.at(core.frame + WHO);
            leaveCoroutine();
            names.drop(command);
            endReturn();
        }

        private void yieldNow() {
            int command = runner.coroutine;
            int value = core.word(1);
            if (command == 0) {
                core.fail("no coroutine", EMPTY);
                return;
            }
            if (names.watching > core.at(runner.coroutineFrame + WATCHED_THEN)) {
                core.fail("can't yield", EMPTY);
                return;
            }
            core.push(core.frame - runner.coroutineFrame);
            core.layAside(command, runner.coroutineFrame + COROUTINE_SIZE);
            leaveCoroutine();
            core.give(value);
        }

        private void callCoroutine(int command) {
            int value = core.word(1);
            if (core.words > 2) {
                core.failArguments();
            } else if (isRunning(command)) {
                core.fail("is running: ", core.word(0));
            } else if (runner.running >= RUNNING_LIMIT) {
                core.fail("too deep", EMPTY);
            } else {
                enterCoroutine(command);
                core.takeBack(command);
                core.frame = runner.coroutineFrame + core.pop();
                core.give(value);
            }
        }
    }

    /** The commands about names, arrays, what is known, and WATCHES. */
    private static final class NameCommands {
        private final Runner runner;
        private final Core core;
        private final Store store;
        private final Lists lists;
        private final Names names;

        private NameCommands(Runner runner) {
            this.runner = runner;
            this.core = runner.core;
            this.store = runner.store;
            this.lists = runner.lists;
            this.names = runner.names;
        }

        private void call(Told command) {
            switch (command) {
                case SET: set(); break;
                case INCR: incr(); break;
                case APPEND: append(false); break;
                case LAPPEND: append(true); break;
                case UNSET_NAMES: unset(); break;
                case GLOBAL: global(); break;
                case VARIABLE: variable(); break;
                case UPVAR: upvar(); break;
                case ARRAY_EXISTS: giveExists(true); break;
                case ARRAY_SET: arraySet(); break;
                case ARRAY_GET: giveElements(true); break;
                case ARRAY_NAMES: giveElements(false); break;
                case ARRAY_SIZE: giveArraySize(); break;
                case ARRAY_UNSET: arrayUnset(); break;
                case INFO_EXISTS: giveExists(false); break;
                case INFO_LEVEL: giveLevel(); break;
                case INFO_COMMANDS: giveCommands(false); break;
                case INFO_PROCS: giveCommands(true); break;
                case INFO_ARGS: giveFormals(); break;
                case INFO_BODY: giveBody(); break;
                case INFO_COROUTINE: giveCoroutine(); break;
                case TRACE_ADD: changeWatches(true); break;
                case TRACE_REMOVE: changeWatches(false); break;
                default: giveWatches(); break;
            }
        }

        private void set() {
            names.aim(core.word(1));
            if (core.words == 2) {
                giveUnlessFailed(names.read());
            } else if (names.write(core.word(2))) {
                names.answer(core.word(1));
            }
        }

        private void giveUnlessFailed(int value) {
            if (value != 0) {
                core.give(value);
            }
        }

        private void incr() {
            int name = core.word(1);
            names.aim(name);
            boolean there = names.isThere();
            int value = there ? names.read() : names.noneIfRoom();
            if (value == 0) {
                return;
            }
            int more = raised(value, there, 2);
            names.aim(name);
            if (more != 0 && names.write(more)) {
                names.answer(name);
            }
        }

        /** A number, 0 if it isn't there, that has become more by that of a word, or 1. 0 with the ERROR. */
        private int raised(int value, boolean there, int word) {
            boolean given = word < core.words;
            if (there && !store.isInteger(value, 0, ANY)) {
                core.fail("no number: ", value);
                return 0;
            }
            long a = there ? store.number : 0;
            if (given && !store.isInteger(core.word(word), 0, ANY)) {
                core.fail("no number: ", core.word(word));
                return 0;
            }
            long b = given ? store.number : 1;
            if (Formula.isSumTooGreat(a, b)) {
                core.fail("too great", EMPTY);
                return 0;
            }
            return core.number(a + b);
        }

        private void append(boolean asList) {
            int name = core.word(1);
            names.aim(name);
            if (core.words == 2) {
                giveUnlessFailed(names.read());
                return;
            }
            int value = names.isThere() ? names.read() : names.noneIfRoom();
            if (value == 0) {
                return;
            }
            int text = asList ? longerList(value, 2) : longerText(value);
            names.aim(name);
            if (text != 0 && core.spend(store.size(text)) && names.write(text)) {
                names.answer(name);
            }
        }

        private int longerText(int value) {
            store.open();
            store.putPart(value, 0, ANY);
            for (int i = 2; i < core.words; i++) {
                store.putPart(core.word(i), 0, ANY);
            }
            return store.close();
        }

        /** A list with the words from .. behind its elements; 0 with the ERROR. */
        private int longerList(int value, int from) {
            int bottom = core.top;
            if (lists.pushAll(value) < 0) {
                return 0;
            }
            for (int i = from; i < core.words; i++) {
                core.push(core.word(i));
            }
            int text = lists.written(bottom, core.top - bottom);
            core.top = bottom;
            return text;
        }

        private void unset() {
            boolean quiet = core.isWord(1, "-nocomplain");
            boolean fine = true;
            for (int i = quiet ? 2 : 1; i < core.words && fine; i++) {
                names.aim(core.word(i));
                fine = names.unset(quiet);
            }
        }

        private void global() {
            boolean fine = store.get(core.level(), OWN) != 0;
            for (int i = 1; i < core.words && fine; i++) {
                fine = isSimple(core.word(i));
                if (fine) {
                    names.findInRoom(names.root, core.word(i));
                    fine = names.makeLink(core.word(i));
                }
            }
        }

        private boolean isSimple(int name) {
            return names.isSimple(name) || core.fail("bad name: ", name);
        }

        private void variable() {
            boolean own = store.get(core.level(), OWN) != 0;
            boolean fine = true;
            for (int i = 1; i < core.words && fine; i += 2) {
                int name = core.word(i);
                fine = isSimple(name);
                if (fine && own) {
                    names.findInRoom(names.roomAtHand(), name);
                    fine = names.makeLink(name);
                }
                if (fine && i + 1 < core.words) {
                    names.aim(name);
                    fine = names.write(core.word(i + 1));
                }
            }
        }

        private void upvar() {
            boolean isTold = core.words % 2 == 0;
            int level = names.levelBy(isTold ? core.word(1) : core.number(1));
            boolean fine = level != 0;
            for (int i = isTold ? 2 : 1; i + 1 < core.words && fine; i += 2) {
                names.aim(core.word(i));
                fine = names.find(level) ? names.makeLink(core.word(i + 1)) : names.failFind(names.base);
            }
        }

        // ---- arrays

        private void giveExists(boolean array) {
            names.aim(core.word(2));
            core.giveTruth(array ? names.isArray() : names.isThere());
        }

        private void arraySet() {
            names.aim(core.word(2));
            int base = names.base;
            if (!names.find(core.level())) {
                names.failFind(base);
                return;
            }
            if (names.key != 0 || store.get(names.found, STATE) == HAS_VALUE) {
                core.fail("no array: ", base);
                return;
            }
            int bottom = core.top;
            int many = lists.pushEven(core.word(3));
            if (many == 0) {
                store.set(names.foundOrNew(), STATE, IS_ARRAY);
            }
            boolean fine = true;
            for (int i = bottom; i < bottom + many && fine; i += 2) {
                names.aim(base, core.at(i));
                fine = names.write(core.at(i + 1));
            }
            core.top = bottom;
        }

        /** Pushes the INDEXES of an array, 0 for none, that fit the pattern in word 3, if there is one. */
        private void pushElements(int array, boolean values) {
            int e = store.get(array, FIRST);
            while (e != 0) {
                boolean fits = core.words < 4 || store.fits(core.word(3), store.get(e, NAME));
                if (fits && store.get(e, STATE) == HAS_VALUE) {
                    core.push(store.get(e, NAME));
                }
                if (fits && store.get(e, STATE) == HAS_VALUE && values) {
                    core.push(store.get(e, VALUE_OF));
                }
                e = store.get(e, NEXT_ONE);
            }
        }

        private void giveElements(boolean values) {
            int bottom = core.top;
            names.aim(core.word(2));
            pushElements(names.isArray() ? names.found : 0, values);
            core.give(lists.popWritten(bottom));
        }

        private void giveArraySize() {
            int bottom = core.top;
            names.aim(core.word(2));
            pushElements(names.isArray() ? names.found : 0, false);
            int many = core.top - bottom;
            core.top = bottom;
            core.giveNumber(many);
        }

        private void arrayUnset() {
            names.aim(core.word(2));
            boolean isArray = names.isArray();
            if (names.trouble == Names.NO_ROOM) {
                names.failFind(names.base);
            }
            if (isArray && core.words == 3) {
                names.unset(true);
            } else if (isArray) {
                int bottom = core.top;
                pushElements(names.found, false);
                int end = core.top;
                boolean fine = true;
                for (int i = bottom; i < end && fine; i++) {
                    names.aim(core.word(2), core.at(i));
                    fine = names.unset(true);
                }
                core.top = bottom;
            }
        }

        // ---- info

        private void giveLevel() {
            int number = store.get(core.level(), NUMBER);
            if (core.words == 2) {
                core.giveNumber(number);
                return;
            }
            long wanted = store.isInteger(core.word(2), 0, ANY) ? store.number : 0;
            if (wanted < 1 || wanted > number) {
                core.fail("no level: ", core.word(2));
                return;
            }
            int frame = runner.coroutineFrame + store.get(names.levelOfNumber(wanted), CALLED_AT);
            int many = core.at(frame + WORDS);
            core.give(lists.written(frame - many, many));
        }

        private void giveCommands(boolean procedures) {
            int bottom = core.top;
            for (int c = store.get(names.roomAtHand(), COMMANDS); c != 0; c = store.get(c, NEXT_ONE)) {
                boolean wanted = !procedures || store.get(c, TYPE) == PROCEDURE;
                if (wanted && (core.words < 3 || store.fits(core.word(2), store.get(c, NAME)))) {
                    core.push(store.get(c, NAME));
                }
            }
            core.give(lists.popWritten(bottom));
        }

        /** The procedure that word 2 tells; 0 with the ERROR. */
        private int procedure() {
            int command = names.command(core.word(2));
            if (store.get(command, TYPE) != PROCEDURE) {
                core.fail("no procedure: ", core.word(2));
                return 0;
            }
            return command;
        }

        private void giveBody() {
            giveUnlessFailed(store.get(procedure(), BODY));
        }

        private void giveFormals() {
            int bottom = core.top;
            int command = procedure();
            int many = command == 0 ? -1 : runner.control.pushKept(command);
            for (int i = 0; i < many; i++) {
                core.put(bottom + i, core.at(bottom + 2 * i));
            }
            if (many >= 0) {
                core.top = bottom + many;
                core.give(lists.popWritten(bottom));
            }
        }

        private void giveCoroutine() {
            int c = runner.coroutine;
            core.give(c == 0 ? EMPTY : names.fullName(store.get(c, ROOM), store.get(c, NAME)));
        }

        // ---- WATCHES

        /** Finds what word 3 means, to add a WATCH or else; false with the ERROR. */
        private boolean findWatched(boolean adds) {
            if (!core.isWord(2, "variable")) {
                return core.failArguments();
            }
            names.aim(core.word(3));
            names.find(core.level());
            if (names.trouble == Names.NO_ROOM) {
                return names.failFind(names.base);
            }
            boolean wrong = names.trouble != 0 || names.key != 0 && store.get(names.found, STATE) == HAS_VALUE;
            return !adds || !wrong || core.fail("no array: ", names.base);
        }

        /** What was found, or its ELEMENT; 0 if there has never been one. */
        private int watchedOne() {
            if (names.trouble != 0) {
                return 0;
            }
            return names.key == 0 ? names.found : names.elementOf(names.found, names.key);
        }

        private void changeWatches(boolean adds) {
            int acts = findWatched(adds) ? acts(core.word(4)) : 0;
            if (acts == 0) {
                return;
            }
            int v = watchedOne();
            if (!adds) {
                names.removeWatch(v, acts, core.word(5));
                names.tidyElement(names.found, v);
                return;
            }
            int one = names.foundOrNew();
            if (names.key != 0) {
                store.set(one, STATE, IS_ARRAY);
                one = v == 0 ? names.newElement(one, names.key) : v;
            }
            names.addWatch(one, acts, core.word(5));
        }

        /** The acts that a list tells; 0 with the ERROR. */
        private int acts(int text) {
            int bottom = core.top;
            int many = lists.pushAll(text);
            int acts = 0;
            boolean fine = many > 0;
            for (int i = bottom; i < bottom + many; i++) {
                int word = core.at(i);
                int act = store.is(word, "read") ? READ : store.is(word, "write") ? WRITE : 0;
                act = store.is(word, "unset") ? UNSET : act;
                fine = fine && act != 0;
                acts |= act;
            }
            core.top = bottom;
            if (many >= 0 && !fine) {
                core.fail("bad ops: ", text);
            }
            return fine ? acts : 0;
        }

        private void giveWatches() {
            if (!findWatched(false)) {
                return;
            }
            int bottom = core.top;
            for (int w = store.get(watchedOne(), WATCHES); w != 0; w = store.get(w, NEXT_ONE)) {
                int acts = store.get(w, ACTS);
                store.open();
                store.putWord((acts & READ) != 0 ? "read" : "");
                store.putWord((acts & WRITE) != 0 ? (acts & READ) != 0 ? " write" : "write" : "");
                store.putWord((acts & UNSET) != 0 ? (acts & (READ | WRITE)) != 0 ? " unset" : "unset" : "");
                int place = core.top;
                core.push(store.close());
                core.push(store.get(w, NAME));
                core.push(lists.popWritten(place));
            }
            core.give(lists.popWritten(bottom));
        }
    }

    /** The commands about lists, DICTIONARIES and letters. */
    private static final class ValueCommands {
        private final Control control;
        private final Core core;
        private final Store store;
        private final Lists lists;
        private final Names names;
        private boolean byNumber;
        private boolean downwards;

        private ValueCommands(Control control) {
            this.control = control;
            this.core = control.core;
            this.store = control.store;
            this.lists = control.lists;
            this.names = control.names;
        }

        private void callList(Told command) {
            switch (command) {
                case LIST: core.give(lists.written(core.args + 1, core.words - 1)); break;
                case LLENGTH: giveLength(); break;
                case LINDEX: lindex(); break;
                case LSET: lset(); break;
                case LRANGE: lrange(); break;
                case LINSERT: linsert(); break;
                case LREPLACE: lreplace(); break;
                case LREVERSE: lreverse(); break;
                case LREPEAT: lrepeat(); break;
                case CONCAT: core.give(lists.concat(1)); break;
                case JOIN: join(); break;
                case SPLIT: split(); break;
                case LASSIGN: lassign(); break;
                case LSEARCH: lsearch(); break;
                default: lsort(); break;
            }
        }

        private void giveLength() {
            int many = lists.elements(core.word(1));
            if (many >= 0) {
                core.giveNumber(many);
            }
        }

        private void lindex() {
            int text = core.word(1);
            for (int i = 2; i < core.words; i++) {
                if (i > 2 && !core.spend(store.size(text))) {
                    return;
                }
                int many = lists.elements(text);
                if (many < 0 || !lists.takeIndex(core.word(i), many)) {
                    return;
                }
                text = lists.elementAt(text, lists.place);
            }
            core.give(text);
        }

        private void lset() {
            int name = core.word(1);
            int last = core.words - 1;
            int value = core.word(last);
            names.aim(name);
            if (last > 2) {
                value = names.read();
                if (value == 0 || !pushWay(value, last)) {
                    return;
                }
                value = setOnWay(last);
            }
            names.aim(name);
            if (names.write(value)) {
                names.answer(name);
            }
        }

        /** Pushes the lists on the way to an element, and where it goes on in each; false with the ERROR. */
        private boolean pushWay(int value, int last) {
            int text = value;
            int bottom = core.top;
            for (int i = 2; i < last; i++) {
                if (i > 2 && !core.spend(store.size(text))) {
                    return false;
                }
                int many = lists.elements(text);
                boolean fine = many >= 0 && lists.takeIndex(core.word(i), many);
                if (fine && (lists.place < 0 || lists.place >= many)) {
                    fine = core.fail("outside: ", core.word(i));
                }
                if (!fine) {
                    core.top = bottom;
                    return false;
                }
                core.push(text);
                core.push((int) lists.place);
                text = lists.elementAt(text, lists.place);
            }
            return true;
        }

        /** Writes the lists on the way anew, the innermost first. */
        private int setOnWay(int last) {
            int text = core.word(last);
            for (int i = 2; i < last; i++) {
                int place = core.pop();
                int list = core.pop();
                int bottom = core.top;
                int many = lists.pushAll(list);
                core.put(bottom + place, text);
                text = lists.written(bottom, many);
                core.top = bottom;
                if (!core.spend(store.size(text))) {
                    return text;
                }
            }
            return text;
        }

        /** Takes two words as the first and last of so many things, as far as these are there; false with the ERROR. */
        private boolean pushRange(int word, int many) {
            if (!lists.takeIndex(core.word(word), many)) {
                return false;
            }
            int from = (int) Math.max(0, Math.min(lists.place, many));
            if (!lists.takeIndex(core.word(word + 1), many)) {
                return false;
            }
            core.push(from);
            core.push((int) Math.max(-1, Math.min(lists.place, many - 1)));
            return true;
        }

        private void lrange() {
            int bottom = core.top;
            int many = lists.elements(core.word(1));
            if (many < 0 || !pushRange(2, many)) {
                return;
            }
            int to = core.pop();
            int from = core.pop();
            lists.pushAll(core.word(1));
            core.give(from > to ? EMPTY : lists.written(bottom + from, to - from + 1));
            core.top = bottom;
        }

        private void linsert() {
            int many = lists.elements(core.word(1));
            if (many < 0 || !lists.takeIndex(core.word(2), many + 1)) {
                return;
            }
            int place = (int) Math.max(0, Math.min(lists.place, many));
            replace(place, place - 1, many, 3);
        }

        private void lreplace() {
            int many = lists.elements(core.word(1));
            if (many < 0 || !pushRange(2, many)) {
                return;
            }
            int to = core.pop();
            int from = core.pop();
            replace(from, to, many, 4);
        }

        /** Answers the list with the words from first on in place of elements from .. to. */
        private void replace(int from, int to, int many, int first) {
            int bottom = core.top;
            lists.pushAll(core.word(1));
            int result = core.top;
            for (int i = 0; i < from; i++) {
                core.push(core.at(bottom + i));
            }
            for (int i = first; i < core.words; i++) {
                core.push(core.word(i));
            }
            for (int i = Math.max(from, to + 1); i < many; i++) {
                core.push(core.at(bottom + i));
            }
            core.give(lists.written(result, core.top - result));
            core.top = bottom;
        }

        private void lreverse() {
            int bottom = core.top;
            int many = lists.pushAll(core.word(1));
            for (int i = 0; i < many / 2; i++) {
                int text = core.at(bottom + i);
                core.put(bottom + i, core.at(bottom + many - 1 - i));
                core.put(bottom + many - 1 - i, text);
            }
            if (many >= 0) {
                core.give(lists.popWritten(bottom));
            }
        }

        private void lrepeat() {
            if (!store.isInteger(core.word(1), 0, ANY)) {
                core.fail("no number: ", core.word(1));
                return;
            }
            long times = store.number;
            if (times < 0) {
                core.fail("bad count: ", core.word(1));
                return;
            }
            store.open();
            boolean first = true;
            for (long i = 0; i < times && core.words > 2 && !store.over; i++) {
                for (int k = 2; k < core.words; k++) {
                    if (!first) {
                        store.put(BLANK);
                    }
                    store.putElement(core.word(k), 0, store.size(core.word(k)), first);
                    first = false;
                }
            }
            core.give(store.close());
        }

        private void join() {
            int bottom = core.top;
            int many = lists.pushAll(core.word(1));
            if (many < 0) {
                return;
            }
            store.open();
            for (int i = 0; i < many && !store.over; i++) {
                if (i > 0 && core.words > 2) {
                    store.putPart(core.word(2), 0, ANY);
                } else if (i > 0) {
                    store.put(BLANK);
                }
                store.putPart(core.at(bottom + i), 0, ANY);
            }
            core.top = bottom;
            core.give(store.close());
        }

        private void split() {
            int text = core.word(1);
            int size = store.size(text);
            boolean each = core.words > 2 && store.size(core.word(2)) == 0;
            store.open();
            int from = 0;
            for (int i = 0; i <= size && size > 0 && !store.over; i++) {
                boolean ends = each ? i > 0 : i == size || isSeparator(store.letter(text, i));
                if (ends) {
                    if (from > 0) {
                        store.put(BLANK);
                    }
                    store.putElement(text, from, i, from == 0);
                    from = each ? i : i + 1;
                }
            }
            core.give(store.close());
        }

        private boolean isSeparator(int c) {
            if (core.words < 3) {
                return Store.isWhite(c);
            }
            boolean found = false;
            for (int i = 0; i < store.size(core.word(2)); i++) {
                found = found || store.letter(core.word(2), i) == c;
            }
            return found;
        }

        private void lassign() {
            int bottom = core.top;
            int many = lists.pushAll(core.word(1));
            if (many < 0) {
                return;
            }
            int given = core.words - 2;
            for (int i = 0; i < given; i++) {
                names.aim(core.word(i + 2));
                if (!names.write(i < many ? core.at(bottom + i) : EMPTY)) {
                    core.top = bottom;
                    return;
                }
            }
            core.give(lists.written(bottom + given, Math.max(0, many - given)));
            core.top = bottom;
        }

        private void lsearch() {
            boolean exact = core.isWord(1, "-exact");
            if (core.words == 4 && !exact && !core.isWord(1, "-glob")) {
                core.failArguments();
                return;
            }
            exact = exact && core.words == 4;
            int pattern = core.word(core.words - 1);
            int bottom = core.top;
            int many = lists.pushAll(core.word(core.words - 2));
            int place = -1;
            for (int i = 0; i < many && place < 0; i++) {
                int element = core.at(bottom + i);
                if (exact ? store.same(element, pattern) : store.fits(pattern, element)) {
                    place = i;
                }
            }
            core.top = bottom;
            if (many >= 0) {
                core.giveNumber(place);
            }
        }

        // ---- sorting

        private void lsort() {
            byNumber = false;
            downwards = false;
            boolean once = false;
            for (int i = 1; i < core.words - 1; i++) {
                if (!byNumber && core.isWord(i, "-integer")) {
                    byNumber = true;
                } else if (!downwards && core.isWord(i, "-decreasing")) {
                    downwards = true;
                } else if (!once && core.isWord(i, "-unique")) {
                    once = true;
                } else {
                    core.failArguments();
                    return;
                }
            }
            int bottom = core.top;
            int many = lists.pushAll(core.word(core.words - 1));
            if (many < 0 || byNumber && !areNumbers(bottom, many)) {
                core.top = bottom;
                return;
            }
            sort(bottom, many);
            if (once) {
                keepOnce(bottom, many);
            }
            core.give(lists.popWritten(bottom));
        }

        private boolean areNumbers(int bottom, int many) {
            for (int i = bottom; i < bottom + many; i++) {
                if (!store.isInteger(core.at(i), 0, ANY)) {
                    return core.fail("no number: ", core.at(i));
                }
            }
            return true;
        }

        private int order(int a, int b) {
            int order = 0;
            if (byNumber && store.isInteger(a, 0, ANY)) {
                long first = store.number;
                order = store.isInteger(b, 0, ANY) ? Long.compare(first, store.number) : 0;
            } else {
                order = store.compare(a, b);
            }
            return downwards ? -order : order;
        }

        /** Merges longer and longer rows, so that equal ones stay as they stand. */
        private void sort(int bottom, int many) {
            for (int i = 0; i < many; i++) {
                core.push(0);
            }
            for (int width = 1; width < many; width *= 2) {
                for (int from = 0; from < many; from += 2 * width) {
                    merge(bottom, many, from, width);
                }
                for (int i = 0; i < many; i++) {
                    core.put(bottom + i, core.at(bottom + many + i));
                }
            }
            core.top = bottom + many;
        }

        private void merge(int bottom, int many, int from, int width) {
            int middle = Math.min(many, from + width);
            int end = Math.min(many, from + 2 * width);
            int a = from;
            int b = middle;
            for (int i = from; i < end; i++) {
                boolean first = b >= end || a < middle && order(core.at(bottom + a), core.at(bottom + b)) <= 0;
                core.put(bottom + many + i, core.at(bottom + (first ? a : b)));
                a += first ? 1 : 0;
                b += first ? 0 : 1;
            }
        }

        private void keepOnce(int bottom, int many) {
            int end = bottom;
            for (int i = bottom; i < bottom + many; i++) {
                boolean last = i == bottom + many - 1 || order(core.at(i), core.at(i + 1)) != 0;
                if (last) {
                    core.put(end, core.at(i));
                    end++;
                }
            }
            core.top = end;
        }

        // ---- dict

        private void callDictionary(Told command) {
            switch (command) {
                case DICT_CREATE: create(); break;
                case DICT_GET: get(true); break;
                case DICT_EXISTS: get(false); break;
                case DICT_SET: change(core.words - 1, false); break;
                case DICT_UNSET: change(core.words, true); break;
                case DICT_INCR: changeOne(true); break;
                case DICT_LAPPEND: changeOne(false); break;
                case DICT_KEYS: giveKeys(); break;
                case DICT_VALUES: giveValues(); break;
                case DICT_SIZE: giveSize(); break;
                case DICT_MERGE: merge(); break;
                default: startFor(); break;
            }
        }

        private void create() {
            if (core.words % 2 != 0) {
                core.failArguments();
                return;
            }
            int bottom = core.top;
            for (int i = 2; i < core.words; i++) {
                core.push(core.word(i));
            }
            lists.mergePairs(bottom, core.top - bottom);
            core.give(lists.popWritten(bottom));
        }

        /** The value of a key, the latest; 0 if it isn't there, -1 with the ERROR if the text is no DICTIONARY. */
        private int valueOf(int text, int key) {
            int bottom = core.top;
            int many = lists.pushAll(text);
            core.top = bottom;
            if (many < 0 || many % 2 != 0) {
                if (many > 0) {
                    core.fail("no dictionary", EMPTY);
                }
                return -1;
            }
            for (int i = bottom + many - 2; i >= bottom; i -= 2) {
                if (store.same(core.at(i), key)) {
                    return core.at(i + 1);
                }
            }
            return 0;
        }

        private void get(boolean wanted) {
            int text = core.word(2);
            for (int i = 3; i < core.words; i++) {
                if (i > 3 && !core.spend(store.size(text))) {
                    return;
                }
                int value = valueOf(text, core.word(i));
                if (value == 0 && wanted) {
                    core.fail("no key: ", core.word(i));
                } else if (value == 0) {
                    core.giveTruth(false);
                }
                if (value <= 0) {
                    return;
                }
                text = value;
            }
            if (!wanted) {
                core.giveTruth(true);
            } else if (core.words > 3) {
                core.give(text);
            } else {
                int bottom = core.top;
                if (lists.pushPairs(text) >= 0) {
                    core.give(lists.popWritten(bottom));
                }
            }
        }

        /** Sets or unsets by the keys that stand at words 3 .. end. */
        private void change(int end, boolean unset) {
            int name = core.word(2);
            names.aim(name);
            int text = names.isThere() ? names.read() : names.noneIfRoom();
            if (text == 0) {
                return;
            }
            int bottom = core.top;
            for (int i = 3; i < end; i++) {
                core.push(text);
                boolean last = i == end - 1;
                int value = valueOf(text, core.word(i));
                if (value == 0 && unset && !last) {
                    core.fail("no key: ", core.word(i));
                    value = -1;
                }
                if (value < 0) {
                    core.top = bottom;
                    return;
                }
                text = value == 0 ? EMPTY : value;
                if (!last && !core.spend(store.size(text))) {
                    return;
                }
            }
            int value = unset ? 0 : core.word(end);
            for (int i = end - 1; i >= 3; i--) {
                value = withKey(core.pop(), core.word(i), value);
                if (!core.spend(store.size(value))) {
                    return;
                }
            }
            names.aim(name);
            if (names.write(value)) {
                names.answer(name);
            }
        }

        /** A DICTIONARY with another value for a key, or without it if that is 0. */
        private int withKey(int text, int key, int value) {
            int bottom = core.top;
            int many = lists.mergePairs(bottom, lists.pushAll(text));
            int place = lists.findKey(bottom, bottom + many, key);
            if (place >= 0 && value != 0) {
                core.put(place + 1, value);
            } else if (place >= 0) {
                for (int i = place; i < core.top - 2; i++) {
                    core.put(i, core.at(i + 2));
                }
                core.top -= 2;
            } else if (value != 0) {
                core.push(key);
                core.push(value);
            }
            int changed = lists.written(bottom, core.top - bottom);
            core.top = bottom;
            return changed;
        }

        private void changeOne(boolean number) {
            int name = core.word(2);
            names.aim(name);
            int text = names.isThere() ? names.read() : names.noneIfRoom();
            int old = text == 0 ? -1 : valueOf(text, core.word(3));
            if (old < 0) {
                return;
            }
            NameCommands others = control.runner.nameCommands;
            int value = old == 0 ? EMPTY : old;
            if (number) {
                value = others.raised(old, old != 0, 4);
            } else if (core.words > 4) {
                value = others.longerList(value, 4);
                core.spend(store.size(value));
            }
            if (value == 0) {
                return;
            }
            text = withKey(text, core.word(3), value);
            names.aim(name);
            if (core.spend(store.size(text)) && names.write(text)) {
                names.answer(name);
            }
        }

        private void giveKeys() {
            int bottom = core.top;
            int many = lists.pushPairs(core.word(2));
            if (many < 0) {
                return;
            }
            int end = bottom;
            for (int i = bottom; i < bottom + many; i += 2) {
                if (core.words < 4 || store.fits(core.word(3), core.at(i))) {
                    core.put(end, core.at(i));
                    end++;
                }
            }
            core.top = end;
            core.give(lists.popWritten(bottom));
        }

        private void giveValues() {
            int bottom = core.top;
            int many = lists.pushPairs(core.word(2));
            if (many < 0) {
                return;
            }
            for (int i = 0; i < many / 2; i++) {
                core.put(bottom + i, core.at(bottom + 2 * i + 1));
            }
            core.top = bottom + many / 2;
            core.give(lists.popWritten(bottom));
        }

        private void giveSize() {
            int bottom = core.top;
            int many = lists.pushPairs(core.word(2));
            core.top = bottom;
            if (many >= 0) {
                core.giveNumber(many / 2);
            }
        }

        private void merge() {
            int bottom = core.top;
            for (int i = 2; i < core.words; i++) {
                if (lists.pushPairs(core.word(i)) < 0) {
                    core.top = bottom;
                    return;
                }
            }
            lists.mergePairs(bottom, core.top - bottom);
            core.give(lists.popWritten(bottom));
        }

        private void startFor() {
            int many = lists.elements(core.word(2));
            if (many < 0) {
                return;
            }
            if (many != 2) {
                core.fail("no names", EMPTY);
                return;
            }
            control.startPairs();
        }

        // ---- letters

        private void callLetters(Told command) {
            int a = core.word(2);
            int b = core.word(3);
            switch (command) {
                case PUTS: puts(); break;
                case STRING_LENGTH: core.giveNumber(store.size(a)); break;
                case STRING_INDEX: index(a, b); break;
                case STRING_RANGE: range(a); break;
                case STRING_FIRST: core.giveNumber(find(a, b, 1)); break;
                case STRING_LAST: core.giveNumber(find(a, b, -1)); break;
                case STRING_COMPARE: core.giveNumber(store.compare(a, b)); break;
                case STRING_EQUAL: core.giveTruth(store.same(a, b)); break;
                case STRING_MATCH: core.giveTruth(store.fits(a, b)); break;
                case STRING_MAP: map(a, b); break;
                case STRING_REPEAT: repeat(a, b); break;
                case STRING_REVERSE: reverse(a); break;
                case STRING_TOLOWER: changeCase(a, false); break;
                case STRING_TOUPPER: changeCase(a, true); break;
                case STRING_TRIM: trim(a, true, true); break;
                case STRING_TRIMLEFT: trim(a, true, false); break;
                case STRING_TRIMRIGHT: trim(a, false, true); break;
                case STRING_CAT: cat(); break;
                default: isOf(a, b); break;
            }
        }

        private void puts() {
            boolean line = core.words == 2;
            if (!line && !core.isWord(1, "-nonewline")) {
                core.failArguments();
                return;
            }
            int text = core.word(core.words - 1);
            for (int i = 0; i < store.size(text); i++) {
                core.print(store.letter(text, i));
            }
            if (line) {
                core.print(LINE);
            }
        }

        private void index(int text, int place) {
            int size = store.size(text);
            if (lists.takeIndex(place, size)) {
                boolean inside = lists.place >= 0 && lists.place < size;
                core.give(inside ? store.part(text, (int) lists.place, (int) lists.place + 1) : EMPTY);
            }
        }

        private void range(int text) {
            int size = store.size(text);
            if (!lists.takeIndex(core.word(3), size)) {
                return;
            }
            int from = (int) Math.max(0, Math.min(lists.place, size));
            if (!lists.takeIndex(core.word(4), size)) {
                return;
            }
            int to = (int) Math.max(-1, Math.min(lists.place, size - 1));
            core.give(from > to ? EMPTY : store.part(text, from, to + 1));
        }

        /** Where a text stands in another one, first or last; -1 if it doesn't. */
        private int find(int part, int text, int step) {
            int last = store.size(text) - store.size(part);
            int i = step > 0 ? 0 : last;
            while (store.size(part) > 0 && i >= 0 && i <= last) {
                if (store.samePart(part, text, i, i + store.size(part))) {
                    return i;
                }
                i += step;
            }
            return -1;
        }

        private void map(int pairs, int text) {
            int bottom = core.top;
            int many = lists.pushEven(pairs);
            if (many < 0) {
                return;
            }
            store.open();
            int size = store.size(text);
            int i = 0;
            while (i < size && !store.over) {
                int place = keyAt(bottom, many, text, i);
                if (place < 0) {
                    store.put(store.letter(text, i));
                    i++;
                } else {
                    store.putPart(core.at(place + 1), 0, ANY);
                    i += Math.max(1, store.size(core.at(place)));
                }
            }
            core.top = bottom;
            core.give(store.close());
        }

        /** Where the first key stands that stands in a text at i; -1 if none does. */
        private int keyAt(int bottom, int many, int text, int i) {
            for (int place = bottom; place < bottom + many; place += 2) {
                int size = store.size(core.at(place));
                if (size > 0 && store.samePart(core.at(place), text, i, i + size)) {
                    return place;
                }
            }
            return -1;
        }

        private void repeat(int text, int times) {
            if (!store.isInteger(times, 0, ANY)) {
                core.fail("no number: ", times);
                return;
            }
            store.open();
            for (long i = 0; i < store.number && store.size(text) > 0 && !store.over; i++) {
                store.putPart(text, 0, ANY);
            }
            core.give(store.close());
        }

        private void reverse(int text) {
            store.open();
            for (int i = store.size(text) - 1; i >= 0; i--) {
                store.put(store.letter(text, i));
            }
            core.give(store.close());
        }

        private void changeCase(int text, boolean upper) {
            store.open();
            for (int i = 0; i < store.size(text); i++) {
                int c = store.letter(text, i);
                boolean changes = upper ? Store.isLower(c) : Store.isUpper(c);
                store.put(changes ? c ^ 32 : c);
            }
            core.give(store.close());
        }

        private void trim(int text, boolean left, boolean right) {
            int from = 0;
            int to = store.size(text);
            while (left && from < to && isTrimmed(store.letter(text, from))) {
                from++;
            }
            while (right && to > from && isTrimmed(store.letter(text, to - 1))) {
                to--;
            }
            core.give(store.part(text, from, to));
        }

        private boolean isTrimmed(int c) {
            if (core.words < 4) {
                return Store.isWhite(c);
            }
            boolean found = false;
            for (int i = 0; i < store.size(core.word(3)); i++) {
                found = found || store.letter(core.word(3), i) == c;
            }
            return found;
        }

        private void cat() {
            store.open();
            for (int i = 2; i < core.words; i++) {
                store.putPart(core.word(i), 0, ANY);
            }
            core.give(store.close());
        }

        private void isOf(int kind, int text) {
            if (store.is(kind, "integer")) {
                core.giveTruth(store.isInteger(text, 0, ANY));
            } else if (store.is(kind, "boolean")) {
                core.giveTruth(store.truth(text) >= 0);
            } else if (store.is(kind, "list")) {
                core.giveTruth(lists.isList(text));
            } else {
                areAll(kind, text);
            }
        }

        private void areAll(int kind, int text) {
            boolean alnum = store.is(kind, "alnum");
            boolean alpha = store.is(kind, "alpha");
            boolean lower = alnum || alpha || store.is(kind, "lower");
            boolean upper = alnum || alpha || store.is(kind, "upper");
            boolean digit = alnum || store.is(kind, "digit");
            boolean space = store.is(kind, "space");
            if (!lower && !upper && !digit && !space) {
                core.fail("no such: ", kind);
                return;
            }
            boolean all = true;
            for (int i = 0; i < store.size(text); i++) {
                int c = store.letter(text, i);
                all = all && (lower && Store.isLower(c) || upper && Store.isUpper(c) || digit && Store.isDigit(c)
                    || space && Store.isWhite(c));
            }
            core.giveTruth(all);
        }
    }
}
