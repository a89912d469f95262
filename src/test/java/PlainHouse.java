import java.util.ArrayList;
import java.util.Arrays;
import java.util.HashMap;
import java.util.HashSet;
import java.util.LinkedHashMap;
import java.util.List;
import java.util.Map;
import java.util.Set;
import java.util.concurrent.SynchronousQueue;

/**
 * A second house, written from the document once more: by recursion, exceptions and the Java library, with a thread for each
 * coroutine. It is slow and has no bound on what it makes; what it answers is compared.
 */
final class PlainHouse {
    private static final int WORK_LIMIT = 30000;
    private static final int TEXT_LIMIT = 40000;
    private static final int FULL_AT = 60000;
    private static final int DEEPEST = 100;
    private static final int MOST_WATCHES = 10;
    private static final int MOST_RUNNING = 20;
    /** Deep scripts in coroutines stand on many calls. */
    private static final long THREAD_STACK = 4L << 20;
    private static final List<String> TOLD = Arrays.asList((
        "set incr append lappend unset global variable upvar array info trace list llength lindex lset lrange "
        + "linsert lreplace lreverse lrepeat concat join split lassign lsearch lsort foreach lmap dict string "
        + "subst puts eval expr if while for switch catch try error break continue return uplevel proc apply "
        + "rename namespace coroutine yield").split(" "));

    /** The evaluation ends by the LIMIT. */
    static final class Limit extends RuntimeException {
        private static final long serialVersionUID = 1;

        Limit() {
            super("the LIMIT", null, false, false);
        }
    }

    /** A [ ] that ended with another code than 0 ends the command around it. */
    static final class Ended extends RuntimeException {
        private static final long serialVersionUID = 1;
        final transient End end;

        Ended(End end) {
            super("a code", null, false, false);
            this.end = end;
        }
    }

    /** A coroutine that is forgotten: its thread goes. */
    static final class Forgotten extends RuntimeException {
        private static final long serialVersionUID = 1;

        Forgotten() {
            super("forgotten", null, false, false);
        }
    }

    /** How a command ended. */
    static final class End {
        final int code;
        final String answer;
        final int left;
        final int then;

        End(int code, String answer, int left, int then) {
            this.code = code;
            this.answer = answer;
            this.left = left;
            this.then = then;
        }

        static End well(String answer) {
            return new End(0, answer, 0, 0);
        }

        static End error(String text) {
            return new End(1, text, 0, 0);
        }

        /** What a call ends with whose body ended so. */
        End behindCall() {
            if (code != 2) {
                return this;
            }
            return left > 1 ? new End(2, answer, left - 1, then) : new End(then, answer, 1, 0);
        }
    }

    static final class Room {
        final Room around;
        final String name;
        final Map<String, Room> rooms = new HashMap<>();
        final Map<String, Variable> variables = new HashMap<>();
        final LinkedHashMap<String, Command> commands = new LinkedHashMap<>();

        Room(Room around, String name) {
            this.around = around;
            this.name = name;
        }

        String fullName() {
            return around == null ? "::" : around.of(name);
        }

        /** The FULL name of what is in it. */
        String of(String tail) {
            return (around == null ? "" : fullName()) + "::" + tail;
        }

        boolean isIn(Room other) {
            Room room = this;
            while (room != null && room != other) {
                room = room.around;
            }
            return room != null;
        }
    }

    /** A command that is told (formals and coroutine are null), a procedure or a coroutine's. */
    static final class Command {
        Room room;
        String tail;
        final String told;
        final List<List<String>> formals;
        final String body;
        final Coroutine coroutine;

        Command(String told, List<List<String>> formals, String body, Coroutine coroutine) {
            this.told = told;
            this.formals = formals;
            this.body = body;
            this.coroutine = coroutine;
        }

        boolean isRunning() {
            return coroutine != null && coroutine.running;
        }
    }

    enum Kind { NOT_THERE, VALUE, ARRAY, LINK }

    static final class Variable {
        final boolean ofProcedure;
        Kind kind = Kind.NOT_THERE;
        String value;
        /** Those that are there, and those that are not, but were or are watched: an ELEMENT that comes again is the same one. */
        final LinkedHashMap<String, Variable> elements = new LinkedHashMap<>();
        final Map<String, Variable> awaited = new HashMap<>();
        Variable target;
        String targetIndex;
        List<Watch> watches = new ArrayList<>();
        boolean busy;

        Variable(boolean ofProcedure) {
            this.ofProcedure = ofProcedure;
        }

        /** It is not there and has no WATCHES. */
        void clear() {
            dropWatches();
            awaited.putAll(elements);
            awaited.values().forEach(Variable::clear);
            elements.clear();
            kind = Kind.NOT_THERE;
            value = null;
        }

        void dropWatches() {
            watches.forEach(watch -> watch.removed = true);
            watches = new ArrayList<>();
        }
    }

    static final class Watch {
        final Set<String> acts;
        final String command;
        boolean removed;

        Watch(Set<String> acts, String command) {
            this.acts = acts;
            this.command = command;
        }
    }

    static final class Level {
        final Room room;
        final Map<String, Variable> own;
        final List<String> words;

        Level(Room room, Map<String, Variable> own, List<String> words) {
            this.room = room;
            this.own = own;
            this.words = words;
        }
    }

    static final class Coroutine {
        final List<String> first;
        final SynchronousQueue<Object> in = new SynchronousQueue<>();
        final SynchronousQueue<Object> out = new SynchronousQueue<>();
        Command command;
        Thread thread;
        boolean running;
        int watching;
        List<Level> levels = new ArrayList<>();
        /** Its levels, also those that are as not there in uplevel. */
        final List<Level> all = new ArrayList<>();

        Coroutine(List<String> first) {
            this.first = first;
        }
    }

    /** What a name means: a variable that is no LINK, perhaps an INDEX in it. */
    static final class Meaning {
        final String base;
        final String toldIndex;
        String index;
        Variable variable;
        /** An INDEX of what is itself an ELEMENT. */
        boolean none;

        Meaning(String base, String index) {
            this.base = base;
            this.index = index;
            this.toldIndex = index == null ? "" : index;
        }

        void leadTo(Variable start) {
            variable = start;
            while (variable.kind == Kind.LINK) {
                none |= variable.targetIndex != null && index != null;
                index = variable.targetIndex != null ? variable.targetIndex : index;
                variable = variable.target;
            }
        }

        /** The variable with its own WATCHES; null if there is none such. */
        Variable own() {
            if (index == null || none) {
                return none ? null : variable;
            }
            Variable element = variable.elements.get(index);
            return element != null ? element : variable.awaited.get(index);
        }

        boolean isThere() {
            return !none && (index == null ? variable.kind != Kind.NOT_THERE : variable.elements.containsKey(index));
        }

        boolean isArray() {
            return index == null && variable.kind == Kind.ARRAY;
        }

        /** null if it has no VALUE. */
        String value() {
            return isThere() ? own().value : null;
        }
    }

    private static final class Group {
        final Variable of;
        final List<Watch> watches = new ArrayList<>();

        Group(Variable of) {
            this.of = of;
        }
    }

    String result = "";
    final StringBuilder output = new StringBuilder();
    int work;
    int used;
    int full;
    int begun;
    Room root;
    Level zero;
    List<Level> levels;
    Coroutine current;
    int running;
    private int watching;
    private final List<Level> all = new ArrayList<>();
    private Set<Coroutine> coroutines = new HashSet<>();

    PlainHouse() {
        renew();
    }

    /** All that is there goes, threads too. */
    void renew() {
        coroutines.forEach(PlainHouse::stop);
        coroutines = new HashSet<>();
        root = new Room(null, "");
        for (String name : TOLD) {
            place(new Command(name, null, null, null), root, name);
        }
        zero = new Level(root, null, null);
        used = 0;
        standAtZero();
    }

    private void standAtZero() {
        levels = new ArrayList<>(List.of(zero));
        all.clear();
        current = null;
        running = 0;
        watching = 0;
    }

    int evaluate(String script) {
        result = "";
        output.setLength(0);
        work = 0;
        begun = 0;
        int ends;
        try {
            End end = script(script, 1);
            ends = end.code == 0 || end.code == 2 ? 0 : 1;
            result = ends == 0 || end.code == 1 ? end.answer : "code " + end.code;
        } catch (Limit limit) {
            ends = 2;
            work = WORK_LIMIT;
            for (Coroutine coroutine : new ArrayList<>(coroutines)) {
                if (coroutine.running) {
                    coroutine.running = false;
                    drop(coroutine.command);
                }
            }
            standAtZero();
        }
        used += work;
        if (used > FULL_AT) {
            renew();
            full++;
        }
        return ends;
    }

    /** {COROUTINES, ROOMS but this one, procedures} in a room. */
    static int[] counted(Room room) {
        int[] counts = new int[3];
        for (Command command : room.commands.values()) {
            counts[0] += command.coroutine != null ? 1 : 0;
            counts[2] += command.formals != null ? 1 : 0;
        }
        for (Room inner : room.rooms.values()) {
            int[] more = counted(inner);
            counts[0] += more[0];
            counts[1] += more[1] + 1;
            counts[2] += more[2];
        }
        return counts;
    }

    void spend(int more) {
        if (work + more > WORK_LIMIT) {
            throw new Limit();
        }
        work += more;
    }

    static String bounded(String text) {
        if (text.length() > TEXT_LIMIT) {
            throw new Limit();
        }
        return text;
    }

    // Scripts, commands and their words

    End script(String text, int depth) {
        PlainCutter cutter = new PlainCutter(bounded(text));
        End end = End.well("");
        while (end.code == 0) {
            PlainCutter.Command command = null;
            String fault = null;
            try {
                command = cutter.next(false, 0);
                if (command == null) {
                    return end;
                }
            } catch (PlainCutter.Fault wrong) {
                fault = wrong.text;
            }
            end = command(command, fault, depth);
        }
        return end;
    }

    /** The script of a command that stands at this depth. */
    End deeper(String text, int depth) {
        mustNotBeTooDeep(depth);
        return script(text, depth + 1);
    }

    static void mustNotBeTooDeep(int depth) {
        if (depth >= DEEPEST) {
            throw new PlainValues.Wrong("too deep");
        }
    }

    private End command(PlainCutter.Command command, String fault, int depth) {
        begun++;
        spend(1);
        End end;
        try {
            if (fault != null) {
                throw new PlainValues.Wrong(fault);
            }
            List<String> words = words(command, depth);
            end = words.isEmpty() ? End.well("") : call(words, depth);
        } catch (PlainValues.Wrong wrong) {
            end = End.error(wrong.text);
        } catch (Ended ended) {
            end = ended.end;
        }
        spend(bounded(end.answer).length());
        return end;
    }

    private List<String> words(PlainCutter.Command command, int depth) {
        List<String> words = new ArrayList<>();
        for (PlainCutter.Word word : command.words) {
            String text = text(word.parts, depth);
            if (word.expanded) {
                words.addAll(PlainValues.list(text));
            } else {
                words.add(text);
            }
        }
        return words;
    }

    String text(List<PlainCutter.Part> parts, int depth) {
        StringBuilder text = new StringBuilder();
        for (PlainCutter.Part part : parts) {
            boolean letters = !part.isName && part.script == null;
            text.append(letters ? part.text : value(part, depth));
            spend(letters ? 0 : 1);
        }
        spend(parts.size() > 1 ? text.length() : 0);
        return bounded(text.toString());
    }

    String value(PlainCutter.Part part, int depth) {
        if (part.isName) {
            return read(part.index == null ? part.text : part.text + "(" + text(part.index, depth) + ")", depth);
        }
        End end = End.well("");
        for (PlainCutter.Command command : part.script) {
            end = command(command, null, depth);
            if (end.code != 0) {
                throw new Ended(end);
            }
        }
        return end.answer;
    }

    // Rooms and commands

    Level level() {
        return levels.get(levels.size() - 1);
    }

    static boolean hasPath(String name) {
        return name.contains("::");
    }

    /** What is ahead of the last two or more : together. */
    static String qualifiers(String name) {
        int end = name.lastIndexOf("::");
        while (end > 0 && name.charAt(end - 1) == ':') {
            end--;
        }
        return end < 0 ? "" : name.substring(0, end);
    }

    static String tail(String name) {
        int start = name.lastIndexOf("::");
        return start < 0 ? name : name.substring(start + 2);
    }

    Room room(String path, Room from, boolean comes) {
        Room room = path.startsWith("::") ? root : from;
        for (String name : path.split("::+")) {
            if (!name.isEmpty() && room != null) {
                Room inner = room.rooms.get(name);
                if (inner == null && comes) {
                    inner = new Room(room, name);
                    room.rooms.put(name, inner);
                }
                room = inner;
            }
        }
        return room;
    }

    /** The room of a name with a PATH; null if it isn't there. */
    private Room roomOf(String name, Room from) {
        String path = qualifiers(name);
        return path.isEmpty() ? root : room(path, from, false);
    }

    Command find(String name) {
        Room here = level().room;
        if (!hasPath(name)) {
            Command command = here.commands.get(name);
            return command != null ? command : root.commands.get(name);
        }
        for (Room from : List.of(here, root)) {
            Room room = roomOf(name, from);
            if (room != null && room.commands.containsKey(tail(name))) {
                return room.commands.get(tail(name));
            }
        }
        return null;
    }

    /** The room in which a command of this name comes. */
    Room home(String name) {
        Room room = hasPath(name) ? roomOf(name, level().room) : level().room;
        if (room == null) {
            throw new PlainValues.Wrong("no room: " + qualifiers(name));
        }
        return room;
    }

    void place(Command command, Room room, String tail) {
        Command before = room.commands.put(tail, command);
        command.room = room;
        command.tail = tail;
        if (before != null && before.coroutine != null) {
            forget(before.coroutine);
        }
    }

    void drop(Command command) {
        command.room.commands.remove(command.tail);
        if (command.coroutine != null) {
            forget(command.coroutine);
        }
    }

    boolean isInUse(Room room) {
        boolean inUse = room == root || all.stream().anyMatch(level -> level.room.isIn(room));
        for (Coroutine coroutine : coroutines) {
            inUse |= coroutine.running && coroutine.command.room.isIn(room);
            inUse |= coroutine.all.stream().anyMatch(level -> level.room.isIn(room));
        }
        return inUse;
    }

    void delete(Room room) {
        room.around.rooms.remove(room.name);
        empty(room);
    }

    private void empty(Room room) {
        room.rooms.values().forEach(this::empty);
        room.variables.values().forEach(Variable::clear);
        new ArrayList<>(room.commands.values()).forEach(this::drop);
    }

    // Names and WATCHES

    private static boolean isElement(String name) {
        return name.endsWith(")") && name.indexOf('(') >= 0;
    }

    /** What a name means at a level; null if its room isn't there. */
    Meaning meaning(String name, Level level) {
        boolean element = isElement(name);
        int open = name.indexOf('(');
        String index = element ? name.substring(open + 1, name.length() - 1) : null;
        return meaning(element ? name.substring(0, open) : name, index, level);
    }

    Meaning meaning(String base, String index, Level level) {
        Meaning meaning = new Meaning(base, index);
        Map<String, Variable> variables = level.own != null ? level.own : level.room.variables;
        if (hasPath(base)) {
            Room room = roomOf(base, level.room);
            if (room == null) {
                return null;
            }
            variables = room.variables;
        }
        boolean ofProcedure = variables == level.own;
        meaning.leadTo(variables.computeIfAbsent(tail(base), key -> new Variable(ofProcedure)));
        return meaning;
    }

    Meaning meaningOrError(String name, Level level) {
        Meaning meaning = meaning(name, level);
        if (meaning == null) {
            throw new PlainValues.Wrong("no room: " + qualifiers(isElement(name) ? name.substring(0, name.indexOf('(')) : name));
        }
        return meaning;
    }

    /** An array's ELEMENT for an act; "no array" where its base is itself an ELEMENT. */
    static Meaning mustBe(Meaning meaning) {
        if (meaning.none) {
            throw noArray(meaning);
        }
        return meaning;
    }

    static PlainValues.Wrong noArray(Meaning meaning) {
        return new PlainValues.Wrong("no array: " + meaning.base);
    }

    String read(String name, int depth) {
        Meaning meaning = mustBe(meaningOrError(name, level()));
        watch(meaning, groups(meaning, "read"), "read", depth);
        meaning = mustBe(meaningOrError(name, level()));
        if (meaning.isArray()) {
            throw new PlainValues.Wrong("is array: " + name);
        }
        if (meaning.index != null && meaning.variable.kind == Kind.VALUE) {
            throw noArray(meaning);
        }
        if (!meaning.isThere()) {
            throw new PlainValues.Wrong("no name: " + name);
        }
        return meaning.value();
    }

    void write(String name, String value, int depth) {
        write(meaningOrError(name, level()), value, depth);
    }

    void write(Meaning meaning, String value, int depth) {
        bounded(value);
        Variable variable = mustBe(meaning).variable;
        if (meaning.isArray()) {
            throw new PlainValues.Wrong("is array: " + meaning.base);
        }
        if (meaning.index != null) {
            variable = element(meaning);
            meaning.variable.awaited.remove(meaning.index);
            meaning.variable.elements.putIfAbsent(meaning.index, variable);
        }
        variable.kind = Kind.VALUE;
        variable.value = value;
        watch(meaning, groups(meaning, "write"), "write", depth);
    }

    /** An ELEMENT's variable, there or awaited; its array comes. */
    static Variable element(Meaning meaning) {
        if (meaning.variable.kind == Kind.VALUE) {
            throw noArray(meaning);
        }
        meaning.variable.kind = Kind.ARRAY;
        Variable element = meaning.own();
        if (element == null) {
            element = new Variable(false);
            meaning.variable.awaited.put(meaning.index, element);
        }
        return element;
    }

    /** Whether there was anything to unset. */
    boolean unset(Meaning meaning, int depth) {
        if (meaning == null || !meaning.isThere()) {
            return false;
        }
        Variable own = meaning.own();
        List<Group> groups = groups(meaning, "unset");
        for (Group group : groups) {
            if (group.of == own) {
                // They are DONE though the variable has them no more.
                group.watches.replaceAll(watch -> new Watch(watch.acts, watch.command));
            }
        }
        own.clear();
        if (meaning.index != null) {
            meaning.variable.awaited.put(meaning.index, meaning.variable.elements.remove(meaning.index));
        }
        watch(meaning, groups, "unset", depth);
        return true;
    }

    private static List<Group> groups(Meaning meaning, String act) {
        List<Group> groups = new ArrayList<>();
        addGroup(meaning.index == null ? null : meaning.variable, act, groups);
        addGroup(meaning.own(), act, groups);
        return groups;
    }

    private static void addGroup(Variable variable, String act, List<Group> groups) {
        if (variable == null || variable.busy) {
            return;
        }
        Group group = new Group(variable);
        for (Watch watch : variable.watches) {
            if (watch.acts.contains(act)) {
                group.watches.add(watch);
            }
        }
        if (!group.watches.isEmpty()) {
            groups.add(group);
        }
    }

    private void watch(Meaning meaning, List<Group> groups, String act, int depth) {
        if (groups.isEmpty()) {
            return;
        }
        if (watching >= MOST_WATCHES || depth >= DEEPEST) {
            if (act.equals("unset")) {
                return;
            }
            throw new PlainValues.Wrong("too deep");
        }
        Coroutine mine = current;
        count(mine, 1);
        try {
            for (Group group : groups) {
                group.of.busy = true;
                try {
                    evaluateAll(group, PlainValues.written(meaning.base, meaning.toldIndex, act), act, depth);
                } finally {
                    group.of.busy = false;
                }
            }
        } finally {
            count(mine, -1);
        }
    }

    private void count(Coroutine mine, int more) {
        watching += more;
        if (mine != null) {
            mine.watching += more;
        }
    }

    private void evaluateAll(Group group, String words, String act, int depth) {
        for (Watch watch : group.watches) {
            if (!watch.removed) {
                String script = watch.command + " " + words;
                spend(1 + script.length());
                End end = script(script, depth + 1);
                if (end.code != 0 && !act.equals("unset")) {
                    throw new PlainValues.Wrong("watch: " + end.answer);
                }
            }
        }
    }

    // Calls

    private End call(List<String> words, int depth) {
        for (String word : words) {
            spend(1 + word.length());
        }
        Command command = find(words.get(0));
        List<String> said = words;
        if (command == null) {
            command = root.commands.get("unknown");
            said = new ArrayList<>(words);
            said.add(0, "unknown");
        }
        if (command == null) {
            throw new PlainValues.Wrong("no command: " + words.get(0));
        }
        if (command.formals != null) {
            return procedure(command.formals, command.body, said, 1, command.room, depth);
        }
        return command.coroutine != null ? goOn(command.coroutine, said) : new PlainCommands(this, said, depth).call(command.told);
    }

    void push(Level level) {
        levels.add(level);
        (current == null ? all : current.all).add(level);
    }

    void pop() {
        levels.remove(levels.size() - 1);
        List<Level> list = current == null ? all : current.all;
        list.remove(list.size() - 1);
    }

    /** Words from this one on are written to the formals. */
    End procedure(List<List<String>> formals, String body, List<String> words, int from, Room room, int depth) {
        int many = formals.size();
        boolean rest = many > 0 && formals.get(many - 1).get(0).equals("args");
        int single = rest ? many - 1 : many;
        List<String> given = words.subList(from, words.size());
        boolean fits = rest || given.size() <= single;
        for (int i = given.size(); i < single; i++) {
            fits &= formals.get(i).size() > 1;
        }
        if (!fits) {
            throw new PlainValues.Wrong("arguments: " + words.get(0));
        }
        mustNotBeTooDeep(depth);
        spend(many);
        Level level = new Level(room, new HashMap<>(), words);
        for (int i = 0; i < single; i++) {
            writeFormal(level, formals.get(i).get(0), i < given.size() ? given.get(i) : formals.get(i).get(1));
        }
        if (rest) {
            writeFormal(level, "args", PlainValues.written(given.subList(Math.min(single, given.size()), given.size())));
        }
        push(level);
        End end = script(body, depth + 1);
        pop();
        return end.code == 3 || end.code == 4 ? End.error("code " + end.code) : end.behindCall();
    }

    private static void writeFormal(Level level, String name, String value) {
        Variable variable = new Variable(true);
        variable.kind = Kind.VALUE;
        variable.value = bounded(value);
        level.own.put(name, variable);
    }

    // Coroutines

    End start(Command command, Room room, String tail) {
        mustNotRunTooMany();
        command.coroutine.command = command;
        command.coroutine.levels.add(zero);
        coroutines.add(command.coroutine);
        place(command, room, tail);
        return resume(command.coroutine, "");
    }

    private void mustNotRunTooMany() {
        if (running >= MOST_RUNNING) {
            throw new PlainValues.Wrong("too deep");
        }
    }

    private End goOn(Coroutine coroutine, List<String> words) {
        if (words.size() > 2) {
            throw new PlainValues.Wrong("arguments: " + words.get(0));
        }
        if (coroutine.running) {
            throw new PlainValues.Wrong("is running: " + words.get(0));
        }
        mustNotRunTooMany();
        return resume(coroutine, words.size() > 1 ? words.get(1) : "");
    }

    private End resume(Coroutine coroutine, String value) {
        List<Level> myLevels = levels;
        Coroutine me = current;
        coroutine.running = true;
        running++;
        current = coroutine;
        levels = coroutine.levels;
        Object said = exchange(coroutine, value);
        coroutine.levels = levels;
        current = me;
        levels = myLevels;
        running--;
        if (said instanceof String) {
            coroutine.running = false;
            return End.well((String) said);
        }
        coroutine.thread = null;
        if (said instanceof RuntimeException) {
            throw (RuntimeException) said;
        }
        if (said instanceof Error) {
            throw (Error) said;
        }
        coroutine.running = false;
        drop(coroutine.command);
        return ((End) said).behindCall();
    }

    private Object exchange(Coroutine coroutine, String value) {
        try {
            if (coroutine.thread == null) {
                coroutine.thread = new Thread(null, () -> run(coroutine), "a coroutine", THREAD_STACK);
                coroutine.thread.setDaemon(true);
                coroutine.thread.start();
            } else {
                coroutine.in.put(value);
            }
            return coroutine.out.take();
        } catch (InterruptedException stopped) {
            throw new IllegalStateException(stopped);
        }
    }

    private void run(Coroutine coroutine) {
        Object said;
        try {
            said = first(coroutine);
        } catch (Forgotten forgotten) {
            return;
        } catch (RuntimeException | Error thrown) {
            said = thrown;
        }
        try {
            coroutine.out.put(said);
        } catch (InterruptedException stopped) {
            throw new IllegalStateException(stopped);
        }
    }

    /** The command with which a coroutine begins is one as others, but its words are made. */
    private End first(Coroutine coroutine) {
        begun++;
        spend(1);
        End end;
        try {
            end = call(coroutine.first, 1);
        } catch (PlainValues.Wrong wrong) {
            end = End.error(wrong.text);
        } catch (Ended ended) {
            end = ended.end;
        }
        spend(bounded(end.answer).length());
        return end;
    }

    String yield(String value) {
        Coroutine mine = current;
        if (mine == null) {
            throw new PlainValues.Wrong("no coroutine");
        }
        if (mine.watching > 0) {
            throw new PlainValues.Wrong("can't yield");
        }
        try {
            mine.out.put(value);
            Object said = mine.in.take();
            if (said instanceof Forgotten) {
                throw (Forgotten) said;
            }
            return (String) said;
        } catch (InterruptedException stopped) {
            throw new IllegalStateException(stopped);
        }
    }

    private void forget(Coroutine coroutine) {
        if (coroutines.remove(coroutine)) {
            stop(coroutine);
        }
    }

    private static void stop(Coroutine coroutine) {
        if (coroutine.thread == null) {
            return;
        }
        try {
            coroutine.in.put(new Forgotten());
            coroutine.thread.join();
        } catch (InterruptedException stopped) {
            throw new IllegalStateException(stopped);
        }
    }
}
