import java.math.BigInteger;
import java.util.ArrayList;
import java.util.Arrays;
import java.util.Collections;
import java.util.Comparator;
import java.util.LinkedHashMap;
import java.util.LinkedHashSet;
import java.util.List;
import java.util.Map;
import java.util.Set;

/** Part VII of the document once more: one command that is called with its words. */
final class PlainCommands {
    private static final String WHITE = " \t\n\u000b\f\r";
    private static final List<String> ACTS = List.of("read", "write", "unset");
    private static final int MOST_LEVELS = 1 << 20;

    private final PlainHouse house;
    private final List<String> words;
    private final int depth;
    /** How many words there are behind the first one. */
    private final int many;

    PlainCommands(PlainHouse house, List<String> words, int depth) {
        this.house = house;
        this.words = words;
        this.depth = depth;
        this.many = words.size() - 1;
    }

    private static PlainValues.Wrong wrong(String text) {
        return new PlainValues.Wrong(text);
    }

    private static PlainHouse.End well(String answer) {
        return PlainHouse.End.well(answer);
    }

    private static PlainHouse.End well(boolean answer) {
        return well(answer ? "1" : "0");
    }

    private static PlainHouse.End well(int answer) {
        return well(Integer.toString(answer));
    }

    private static PlainHouse.End well(List<String> answer) {
        return well(PlainValues.written(answer));
    }

    private String word(int i) {
        return words.get(i);
    }

    private List<String> from(int i) {
        return words.subList(Math.min(i, words.size()), words.size());
    }

    private void wants(boolean told) {
        if (!told) {
            throw wrong("arguments: " + word(0));
        }
    }

    private void wants(int least, int most) {
        wants(many >= least && many <= most);
    }

    private String scriptFrom(int i) {
        return many == i ? word(i) : PlainValues.joined(from(i));
    }

    private PlainHouse.End script(int i) {
        return house.deeper(word(i), depth);
    }

    PlainHouse.End call(String name) {
        switch (name) {
            case "array": return array();
            case "info": return info();
            case "trace": return trace();
            case "dict": return dict();
            case "string": return string();
            case "namespace": return namespace();
            case "list": case "llength": case "lindex": case "lrange": case "linsert": case "lreplace": case "lreverse":
            case "lrepeat": case "concat": case "join": case "split": case "lsearch": case "lsort": return ofLists(name);
            case "eval": case "expr": case "if": case "while": case "for": case "switch": case "catch": case "try": case "error":
            case "break": case "continue": case "return": case "foreach": case "lmap": case "subst": case "puts":
                return control(name);
            case "uplevel": case "proc": case "apply": case "rename": case "coroutine": case "yield": return ofCalls(name);
            default: return ofNames(name);
        }
    }

    // Names

    private PlainHouse.End ofNames(String name) {
        switch (name) {
            case "set": return set();
            case "incr": return incr();
            case "append": return append(false);
            case "lappend": return append(true);
            case "unset": return unset();
            case "global": return global();
            case "variable": return variable();
            case "upvar": return upvar();
            case "lset": return lset();
            default: return lassign();
        }
    }

    /** Written; the answer is the value that it has then. */
    private PlainHouse.End written(String name, String value) {
        house.write(name, value, depth);
        PlainHouse.Meaning meaning = house.meaning(name, house.level());
        if (meaning == null || meaning.value() == null) {
            throw wrong("no name: " + name);
        }
        return well(meaning.value());
    }

    private PlainHouse.End writtenForWork(String name, String value) {
        house.spend(value.length());
        return written(name, value);
    }

    private String readOr(String name, String otherwise) {
        return house.meaningOrError(name, house.level()).isThere() ? house.read(name, depth) : otherwise;
    }

    private PlainHouse.End set() {
        wants(1, 2);
        return many == 1 ? well(house.read(word(1), depth)) : written(word(1), word(2));
    }

    private static String sum(String value, String more) {
        BigInteger first = PlainValues.number(value);
        return PlainValues.inRange(first.add(PlainValues.number(more)));
    }

    private PlainHouse.End incr() {
        wants(1, 2);
        return written(word(1), sum(readOr(word(1), "0"), many == 2 ? word(2) : "1"));
    }

    private PlainHouse.End append(boolean asList) {
        wants(many >= 1);
        if (many == 1) {
            return well(house.read(word(1), depth));
        }
        String value = readOr(word(1), "");
        return writtenForWork(word(1), asList ? longer(value, from(2)) : value + String.join("", from(2)));
    }

    private static String longer(String list, List<String> more) {
        List<String> elements = PlainValues.list(list);
        elements.addAll(more);
        return PlainValues.written(elements);
    }

    private PlainHouse.End unset() {
        boolean quiet = many >= 1 && word(1).equals("-nocomplain");
        for (String name : from(quiet ? 2 : 1)) {
            PlainHouse.Level level = house.level();
            boolean was = house.unset(quiet ? house.meaning(name, level) : house.meaningOrError(name, level), depth);
            if (!was && !quiet) {
                throw wrong("no name: " + name);
            }
        }
        return well("");
    }

    private static void mustBePlain(String name) {
        if (PlainHouse.hasPath(name) || name.indexOf('(') >= 0 || name.indexOf(')') >= 0) {
            throw wrong("bad name: " + name);
        }
    }

    private void link(String name, PlainHouse.Meaning to) {
        PlainHouse.Level level = house.level();
        Map<String, PlainHouse.Variable> variables = level.own != null ? level.own : level.room.variables;
        if (level.own == null && to.variable.ofProcedure) {
            throw wrong("bad name: " + name);
        }
        PlainHouse.Variable variable = variables.computeIfAbsent(name, key -> new PlainHouse.Variable(level.own != null));
        if (variable.kind == PlainHouse.Kind.VALUE || variable.kind == PlainHouse.Kind.ARRAY) {
            throw wrong("is there: " + name);
        }
        if (variable == to.variable) {
            throw wrong("is itself: " + name);
        }
        variable.dropWatches();
        variable.kind = PlainHouse.Kind.LINK;
        variable.target = to.variable;
        variable.targetIndex = to.index;
    }

    private void linkToRoom(String name, PlainHouse.Room room) {
        link(name, house.meaning(name, new PlainHouse.Level(room, null, null)));
    }

    private PlainHouse.End global() {
        for (String name : from(1)) {
            if (house.level().own != null) {
                mustBePlain(name);
                linkToRoom(name, house.root);
            }
        }
        return well("");
    }

    private PlainHouse.End variable() {
        wants(many >= 1);
        for (int i = 1; i <= many; i += 2) {
            mustBePlain(word(i));
            if (house.level().own != null) {
                linkToRoom(word(i), house.level().room);
            }
            if (i < many) {
                house.write(word(i), word(i + 1), depth);
            }
        }
        return well("");
    }

    private static boolean tellsLevel(String text) {
        return PlainValues.areDigits(text.startsWith("#") ? text.substring(1) : text, 10);
    }

    private int levelNumber(String told) {
        BigInteger most = BigInteger.valueOf(house.levels.size() - 1);
        if (tellsLevel(told)) {
            BigInteger level = told.startsWith("#") ? new BigInteger(told.substring(1)) : most.subtract(new BigInteger(told));
            if (level.signum() >= 0 && level.compareTo(most) <= 0) {
                return level.intValue();
            }
        }
        throw wrong("no level: " + told);
    }

    private PlainHouse.End upvar() {
        wants(many >= 2);
        int start = many % 2 == 1 ? 2 : 1;
        PlainHouse.Level level = house.levels.get(levelNumber(start == 2 ? word(1) : "1"));
        for (int i = start; i < many; i += 2) {
            PlainHouse.Meaning meaning = PlainHouse.mustBe(house.meaningOrError(word(i), level));
            mustBePlain(word(i + 1));
            link(word(i + 1), meaning);
        }
        return well("");
    }

    private PlainHouse.End lassign() {
        wants(many >= 1);
        List<String> elements = PlainValues.list(word(1));
        for (int i = 2; i <= many; i++) {
            house.write(word(i), i - 2 < elements.size() ? elements.get(i - 2) : "", depth);
        }
        return well(elements.subList(Math.min(many - 1, elements.size()), elements.size()));
    }

    private PlainHouse.End lset() {
        wants(many >= 2);
        if (many == 2) {
            return written(word(1), word(2));
        }
        return written(word(1), changed(house.read(word(1), depth), 2));
    }

    /** A list with the word at the end in place of the element that the words from this one on tell. */
    private String changed(String list, int i) {
        house.spend(i > 2 ? list.length() : 0);
        List<String> elements = PlainValues.list(list);
        int index = PlainValues.index(word(i), elements.size());
        if (index < 0 || index >= elements.size()) {
            throw wrong("outside: " + word(i));
        }
        elements.set(index, i == many - 1 ? word(many) : changed(elements.get(index), i + 1));
        String text = PlainValues.written(elements);
        house.spend(text.length());
        return text;
    }

    // Families about names

    /** A family's first words, each with the least and most words of a call; more than are ever there for any number. */
    private String family(String told) {
        wants(many >= 1);
        List<String> rows = Arrays.asList(told.split(" "));
        int row = rows.indexOf(word(1));
        if (row < 0 || row % 3 != 0) {
            throw wrong("no such: " + word(1));
        }
        wants(Integer.parseInt(rows.get(row + 1)), Integer.parseInt(rows.get(row + 2)));
        return word(1);
    }

    private PlainHouse.End array() {
        String act = family("exists 2 2 size 2 2 set 3 3 get 2 3 names 2 3 unset 2 3");
        boolean must = act.equals("set") || act.equals("unset");
        PlainHouse.Meaning meaning = must ? house.meaningOrError(word(2), house.level()) : house.meaning(word(2), house.level());
        boolean isArray = meaning != null && !meaning.none && meaning.isArray();
        switch (act) {
            case "exists": return well(isArray);
            case "size": return well(isArray ? meaning.variable.elements.size() : 0);
            case "set": return arraySet(meaning);
            case "unset": return isArray ? arrayUnset(meaning) : well("");
            default: return well(isArray ? fitting(meaning, act.equals("get")) : List.of());
        }
    }

    private List<String> fitting(PlainHouse.Meaning meaning, boolean values) {
        List<String> list = new ArrayList<>();
        for (Map.Entry<String, PlainHouse.Variable> entry : meaning.variable.elements.entrySet()) {
            if (many < 3 || PlainValues.fits(word(3), entry.getKey())) {
                list.add(entry.getKey());
                list.addAll(values ? List.of(entry.getValue().value) : List.of());
            }
        }
        return list;
    }

    private PlainHouse.End arraySet(PlainHouse.Meaning meaning) {
        if (meaning.index != null || meaning.variable.kind == PlainHouse.Kind.VALUE) {
            throw PlainHouse.noArray(meaning);
        }
        List<String> pairs = PlainValues.pairs(word(3));
        if (pairs.isEmpty()) {
            meaning.variable.kind = PlainHouse.Kind.ARRAY;
        }
        for (int i = 0; i < pairs.size(); i += 2) {
            PlainHouse.Meaning element = house.meaning(word(2), pairs.get(i), house.level());
            if (element == null) {
                throw wrong("no room: " + PlainHouse.qualifiers(word(2)));
            }
            house.write(element, pairs.get(i + 1), depth);
        }
        return well("");
    }

    private PlainHouse.End arrayUnset(PlainHouse.Meaning meaning) {
        if (many == 2) {
            house.unset(meaning, depth);
            return well("");
        }
        for (String index : fitting(meaning, false)) {
            house.unset(house.meaning(word(2), index, house.level()), depth);
        }
        return well("");
    }

    private PlainHouse.End info() {
        String act = family("exists 2 2 level 1 2 commands 1 2 procs 1 2 args 2 2 body 2 2 coroutine 1 1");
        switch (act) {
            case "exists":
                PlainHouse.Meaning meaning = house.meaning(word(2), house.level());
                return well(meaning != null && meaning.isThere());
            case "level": return many == 1 ? well(house.levels.size() - 1) : levelWords();
            case "coroutine": return well(house.current == null ? "" : house.current.command.room.of(house.current.command.tail));
            case "commands": case "procs": return commands(act.equals("procs"));
            default: return ofProcedure(act.equals("body"));
        }
    }

    private PlainHouse.End levelWords() {
        BigInteger number = PlainValues.integer(word(2));
        if (number == null || number.signum() <= 0 || number.compareTo(BigInteger.valueOf(house.levels.size())) >= 0) {
            throw wrong("no level: " + word(2));
        }
        return well(house.levels.get(number.intValue()).words);
    }

    private PlainHouse.End commands(boolean procedures) {
        List<String> tails = new ArrayList<>();
        for (PlainHouse.Command command : house.level().room.commands.values()) {
            boolean fits = many == 1 || PlainValues.fits(word(2), command.tail);
            if (fits && (!procedures || command.formals != null)) {
                tails.add(command.tail);
            }
        }
        return well(tails);
    }

    private PlainHouse.End ofProcedure(boolean body) {
        PlainHouse.Command command = house.find(word(2));
        if (command == null || command.formals == null) {
            throw wrong("no procedure: " + word(2));
        }
        List<String> names = new ArrayList<>();
        command.formals.forEach(formal -> names.add(formal.get(0)));
        return body ? well(command.body) : well(names);
    }

    private Set<String> acts() {
        Set<String> acts = new LinkedHashSet<>(PlainValues.list(word(4)));
        if (acts.isEmpty() || !ACTS.containsAll(acts)) {
            throw wrong("bad ops: " + word(4));
        }
        return acts;
    }

    private PlainHouse.End trace() {
        String act = family("add 5 5 remove 5 5 info 3 3");
        wants(word(2).equals("variable"));
        PlainHouse.Meaning meaning = house.meaningOrError(word(3), house.level());
        switch (act) {
            case "add": return traceAdd(PlainHouse.mustBe(meaning));
            case "remove": return traceRemove(meaning.own());
            default: return traceInfo(meaning.own());
        }
    }

    private PlainHouse.End traceAdd(PlainHouse.Meaning meaning) {
        if (meaning.index != null && meaning.variable.kind == PlainHouse.Kind.VALUE) {
            throw PlainHouse.noArray(meaning);
        }
        PlainHouse.Watch watch = new PlainHouse.Watch(acts(), word(5));
        PlainHouse.Variable variable = meaning.index == null ? meaning.variable : PlainHouse.element(meaning);
        variable.watches.add(0, watch);
        return well("");
    }

    private PlainHouse.End traceRemove(PlainHouse.Variable variable) {
        Set<String> acts = acts();
        List<PlainHouse.Watch> watches = variable == null ? List.of() : variable.watches;
        for (PlainHouse.Watch watch : watches) {
            if (watch.acts.equals(acts) && watch.command.equals(word(5))) {
                watch.removed = true;
                watches.remove(watch);
                break;
            }
        }
        return well("");
    }

    private static PlainHouse.End traceInfo(PlainHouse.Variable variable) {
        List<String> list = new ArrayList<>();
        List<PlainHouse.Watch> watches = variable == null ? List.of() : variable.watches;
        for (PlainHouse.Watch watch : watches) {
            List<String> acts = new ArrayList<>(ACTS);
            acts.retainAll(watch.acts);
            list.add(PlainValues.written(PlainValues.written(acts), watch.command));
        }
        return well(list);
    }

    // Lists

    private PlainHouse.End ofLists(String name) {
        switch (name) {
            case "list": return well(from(1));
            case "concat": return well(PlainValues.joined(from(1)));
            case "lindex": return lindex();
            case "lrepeat": return lrepeat();
            case "split": return split();
            case "lsearch": return lsearch();
            case "lsort": return lsort();
            case "llength": case "lreverse": wants(1, 1); break;
            case "join": wants(1, 2); break;
            case "lrange": wants(3, 3); break;
            default: wants(many >= (name.equals("linsert") ? 2 : 3));
        }
        List<String> list = PlainValues.list(word(1));
        switch (name) {
            case "llength": return well(list.size());
            case "join": return well(String.join(many == 2 ? word(2) : " ", list));
            case "lreverse": Collections.reverse(list); return well(list);
            case "linsert":
                int place = PlainValues.index(word(2), list.size() + 1);
                list.addAll(Math.max(0, Math.min(place, list.size())), from(3));
                return well(list);
            case "lrange":
                int[] range = range(word(2), word(3), list.size());
                return well(list.subList(range[0], range[1]));
            default: return lreplace(list);
        }
    }

    /** {the first, one behind the last} of A to B. */
    private static int[] range(String a, String b, int many) {
        int first = Math.max(0, PlainValues.index(a, many));
        int last = Math.min(many - 1, PlainValues.index(b, many));
        return new int[] {first, Math.max(first, last + 1)};
    }

    private PlainHouse.End lreplace(List<String> list) {
        int[] range = range(word(2), word(3), list.size());
        List<String> answer = new ArrayList<>(list.subList(0, range[0]));
        answer.addAll(from(4));
        answer.addAll(list.subList(range[1], list.size()));
        return well(answer);
    }

    private PlainHouse.End lindex() {
        wants(many >= 1);
        String text = word(1);
        for (int i = 2; i <= many; i++) {
            house.spend(i > 2 ? text.length() : 0);
            List<String> list = PlainValues.list(text);
            int index = PlainValues.index(word(i), list.size());
            text = index >= 0 && index < list.size() ? list.get(index) : "";
        }
        return well(text);
    }

    private PlainHouse.End lrepeat() {
        wants(many >= 1);
        BigInteger count = PlainValues.number(word(1));
        if (count.signum() < 0) {
            throw wrong("bad count: " + word(1));
        }
        List<String> list = new ArrayList<>();
        // A list of so many elements has more letters than an answer may have.
        int times = count.min(BigInteger.valueOf(40001)).intValue();
        for (int i = 0; i < times && many > 1 && list.size() <= 40001; i++) {
            list.addAll(from(2));
        }
        return well(list);
    }

    private PlainHouse.End split() {
        wants(1, 2);
        String letters = many == 2 ? word(2) : WHITE;
        List<String> parts = new ArrayList<>();
        StringBuilder part = new StringBuilder();
        for (char c : word(1).toCharArray()) {
            if (letters.isEmpty()) {
                parts.add(String.valueOf(c));
            } else if (letters.indexOf(c) >= 0) {
                parts.add(part.toString());
                part.setLength(0);
            } else {
                part.append(c);
            }
        }
        if (!letters.isEmpty() && !word(1).isEmpty()) {
            parts.add(part.toString());
        }
        return well(parts);
    }

    private PlainHouse.End lsearch() {
        wants(many == 2 || many == 3 && List.of("-exact", "-glob").contains(word(1)));
        boolean exact = many == 3 && word(1).equals("-exact");
        List<String> list = PlainValues.list(word(many - 1));
        for (int i = 0; i < list.size(); i++) {
            if (exact ? list.get(i).equals(word(many)) : PlainValues.fits(word(many), list.get(i))) {
                return well(i);
            }
        }
        return well(-1);
    }

    private PlainHouse.End lsort() {
        wants(many >= 1);
        List<String> options = words.subList(1, many);
        wants(List.of("-integer", "-decreasing", "-unique").containsAll(options) && Set.copyOf(options).size() == options.size());
        List<String> list = PlainValues.list(word(many));
        Comparator<String> order = Comparator.naturalOrder();
        if (options.contains("-integer")) {
            list.forEach(PlainValues::number);
            order = Comparator.comparing(PlainValues::number);
        }
        order = options.contains("-decreasing") ? order.reversed() : order;
        list.sort(order);
        for (int i = list.size() - 2; i >= 0 && options.contains("-unique"); i--) {
            if (order.compare(list.get(i), list.get(i + 1)) == 0) {
                list.remove(i);
            }
        }
        return well(list);
    }

    // Dictionaries

    private PlainHouse.End dict() {
        String act = family("create 1 99999 get 2 99999 exists 3 99999 set 4 99999 unset 3 99999 incr 3 4 lappend 3 99999 keys 2 3"
            + " values 2 2 size 2 2 merge 1 99999 for 4 4");
        switch (act) {
            case "create": wants(many % 2 == 1); return merge(List.of(PlainValues.written(from(2))));
            case "get": case "exists": return look(act.equals("get"));
            case "set": return written(word(2), changedPairs(readOr(word(2), ""), 3, many - 1, true));
            case "unset": return written(word(2), changedPairs(readOr(word(2), ""), 3, many, false));
            case "incr": case "lappend": return changeOne(act.equals("incr"));
            case "keys": return keys();
            case "values": return well(new ArrayList<>(PlainValues.dictionary(word(2)).values()));
            case "size": return well(PlainValues.dictionary(word(2)).size());
            case "merge": return merge(from(2));
            default: return dictFor();
        }
    }

    private PlainHouse.End look(boolean get) {
        String text = word(2);
        if (many == 2) {
            return well(PlainValues.written(PlainValues.dictionary(text)));
        }
        for (int i = 3; i <= many; i++) {
            house.spend(i > 3 ? text.length() : 0);
            text = PlainValues.dictionary(text).get(word(i));
            if (text == null && get) {
                throw wrong("no key: " + word(i));
            }
            if (text == null) {
                return well(false);
            }
        }
        return get ? well(text) : well(true);
    }

    /** A dictionary in which the keys from word i to the last one lead to the word at the end, or to nothing. */
    private String changedPairs(String text, int i, int last, boolean set) {
        house.spend(i > 3 ? text.length() : 0);
        LinkedHashMap<String, String> pairs = PlainValues.dictionary(text);
        if (i < last) {
            if (!set && !pairs.containsKey(word(i))) {
                throw wrong("no key: " + word(i));
            }
            pairs.put(word(i), changedPairs(pairs.getOrDefault(word(i), ""), i + 1, last, set));
        } else if (set) {
            pairs.put(word(i), word(many));
        } else {
            pairs.remove(word(i));
        }
        String made = PlainValues.written(pairs);
        house.spend(made.length());
        return made;
    }

    private PlainHouse.End changeOne(boolean incr) {
        LinkedHashMap<String, String> pairs = PlainValues.dictionary(readOr(word(2), ""));
        String value = pairs.getOrDefault(word(3), incr ? "0" : "");
        if (incr) {
            value = sum(value, many == 4 ? word(4) : "1");
        } else if (many > 3) {
            value = longer(value, from(4));
            house.spend(value.length());
        }
        pairs.put(word(3), value);
        return writtenForWork(word(2), PlainValues.written(pairs));
    }

    private PlainHouse.End keys() {
        List<String> keys = new ArrayList<>(PlainValues.dictionary(word(2)).keySet());
        keys.removeIf(key -> many == 3 && !PlainValues.fits(word(3), key));
        return well(keys);
    }

    private static PlainHouse.End merge(List<String> dictionaries) {
        LinkedHashMap<String, String> pairs = new LinkedHashMap<>();
        for (String each : dictionaries) {
            pairs.putAll(PlainValues.dictionary(each));
        }
        return well(PlainValues.written(pairs));
    }

    private PlainHouse.End dictFor() {
        List<String> names = PlainValues.list(word(2));
        if (names.size() != 2) {
            throw wrong("no names");
        }
        for (Map.Entry<String, String> pair : PlainValues.dictionary(word(3)).entrySet()) {
            house.write(names.get(0), pair.getKey(), depth);
            house.write(names.get(1), pair.getValue(), depth);
            PlainHouse.End end = script(4);
            if (end.code == 3) {
                break;
            }
            if (end.code != 0 && end.code != 4) {
                return end;
            }
        }
        return well("");
    }

    // Letters

    private PlainHouse.End string() {
        String act = family("length 2 2 index 3 3 range 4 4 first 3 3 last 3 3 compare 3 3 equal 3 3 match 3 3 map 3 3 repeat 3 3"
            + " reverse 2 2 tolower 2 2 toupper 2 2 trim 2 3 trimleft 2 3 trimright 2 3 cat 1 99999 is 3 3");
        switch (act) {
            case "length": return well(word(2).length());
            case "index":
                int index = PlainValues.index(word(3), word(2).length());
                return well(index < 0 || index >= word(2).length() ? "" : word(2).substring(index, index + 1));
            case "range":
                int[] range = range(word(3), word(4), word(2).length());
                return well(word(2).substring(range[0], range[1]));
            case "first": return well(word(2).isEmpty() ? -1 : word(3).indexOf(word(2)));
            case "last": return well(word(2).isEmpty() ? -1 : word(3).lastIndexOf(word(2)));
            case "compare": return well(Integer.signum(word(2).compareTo(word(3))));
            case "equal": return well(word(2).equals(word(3)));
            case "match": return well(PlainValues.fits(word(2), word(3)));
            case "map": return map();
            case "repeat": return repeat();
            case "reverse": return well(new StringBuilder(word(2)).reverse().toString());
            case "tolower": return well(moved('A', 'Z', 32));
            case "toupper": return well(moved('a', 'z', -32));
            case "cat": return well(String.join("", from(2)));
            case "is": return well(is());
            default:
                String letters = many == 3 ? word(3) : WHITE;
                return well(PlainValues.trimmed(word(2), letters, !act.endsWith("right"), !act.endsWith("left")));
        }
    }

    private String moved(char from, char to, int by) {
        StringBuilder text = new StringBuilder();
        for (char c : word(2).toCharArray()) {
            text.append(c >= from && c <= to ? (char) (c + by) : c);
        }
        return text.toString();
    }

    private PlainHouse.End map() {
        List<String> pairs = PlainValues.pairs(word(2));
        StringBuilder text = new StringBuilder();
        for (int at = 0; at < word(3).length();) {
            int key = 0;
            while (key < pairs.size() && (pairs.get(key).isEmpty() || !word(3).startsWith(pairs.get(key), at))) {
                key += 2;
            }
            text.append(key < pairs.size() ? pairs.get(key + 1) : word(3).substring(at, at + 1));
            at += key < pairs.size() ? pairs.get(key).length() : 1;
        }
        return well(text.toString());
    }

    private PlainHouse.End repeat() {
        BigInteger count = PlainValues.number(word(3)).max(BigInteger.ZERO);
        // So many letters are more than an answer may have.
        return well(word(2).isEmpty() ? "" : word(2).repeat(count.min(BigInteger.valueOf(40001)).intValue()));
    }

    private boolean is() {
        String text = word(3);
        switch (word(2)) {
            case "integer": return PlainValues.integer(text) != null;
            case "boolean": return PlainValues.kindOfTruth(text) >= 0;
            case "list": return isList(text);
            case "alpha": return text.matches("[a-zA-Z]*+");
            case "digit": return text.matches("[0-9]*+");
            case "alnum": return text.matches("[a-zA-Z0-9]*+");
            case "space": return text.matches("[ \\t-\\r]*+");
            case "upper": return text.matches("[A-Z]*+");
            case "lower": return text.matches("[a-z]*+");
            default: throw wrong("no such: " + word(2));
        }
    }

    private static boolean isList(String text) {
        try {
            PlainValues.list(text);
            return true;
        } catch (PlainValues.Wrong none) {
            return false;
        }
    }

    // Control

    private PlainHouse.End control(String name) {
        switch (name) {
            case "eval": wants(many >= 1); return house.deeper(scriptFrom(1), depth);
            case "expr": wants(many >= 1); return well(PlainExpression.answer(house, String.join(" ", from(1)), depth));
            case "if": return choose();
            case "while": wants(2, 2); return loop(1, 0, 2);
            case "for":
                wants(4, 4);
                PlainHouse.End begin = script(1);
                return begin.code != 0 ? begin : loop(2, 3, 4);
            case "switch": return select();
            case "catch": return catchCode();
            case "try":
                wants(many == 3 && word(2).equals("finally"));
                PlainHouse.End end = script(1);
                PlainHouse.End last = script(3);
                return last.code == 0 ? end : last;
            case "error": wants(1, 1); throw wrong(word(1));
            case "break": wants(0, 0); return new PlainHouse.End(3, "", 0, 0);
            case "continue": wants(0, 0); return new PlainHouse.End(4, "", 0, 0);
            case "return": return returns();
            case "subst": return substitute();
            case "puts": return puts();
            default: return each(name.equals("lmap"));
        }
    }

    private boolean test(int i) {
        return PlainValues.truth(PlainExpression.answer(house, word(i), depth));
    }

    private PlainHouse.End choose() {
        List<int[]> arms = new ArrayList<>();
        int i = 1;
        for (boolean more = true; more;) {
            int test = i++;
            i += i <= many && word(i).equals("then") ? 1 : 0;
            wants(i <= many);
            arms.add(new int[] {test, i++});
            more = i <= many && word(i).equals("elseif");
            i += more ? 1 : 0;
        }
        if (i <= many) {
            i += word(i).equals("else") ? 1 : 0;
            wants(i == many);
            arms.add(new int[] {0, i});
        }
        for (int[] arm : arms) {
            if (arm[0] == 0 || test(arm[0])) {
                return script(arm[1]);
            }
        }
        return well("");
    }

    /** While a test is a truth a script, then (if there is one) what stands between two rounds. */
    private PlainHouse.End loop(int test, int between, int body) {
        while (test(test)) {
            PlainHouse.End end = script(body);
            if (end.code == 0 || end.code == 4) {
                end = between == 0 ? well("") : script(between);
            }
            if (end.code != 0) {
                return end.code == 3 ? well("") : end;
            }
        }
        return well("");
    }

    private PlainHouse.End select() {
        int i = 1;
        boolean glob = many >= 1 && word(1).equals("-glob");
        i += glob || many >= 1 && word(1).equals("-exact") ? 1 : 0;
        i += i <= many && word(i).equals("--") ? 1 : 0;
        wants(i < many);
        String text = word(i);
        List<String> arms = i + 1 == many ? PlainValues.list(word(many)) : from(i + 1);
        wants(arms.size() >= 2 && arms.size() % 2 == 0);
        for (int k = 0; k < arms.size(); k += 2) {
            String pattern = arms.get(k);
            boolean last = k == arms.size() - 2;
            if (last && pattern.equals("default") || (glob ? PlainValues.fits(pattern, text) : pattern.equals(text))) {
                int body = k + 1;
                while (arms.get(body).equals("-") && body < arms.size() - 1) {
                    body += 2;
                }
                return house.deeper(arms.get(body), depth);
            }
        }
        return well("");
    }

    private PlainHouse.End catchCode() {
        wants(1, 2);
        PlainHouse.End end = script(1);
        if (many == 2) {
            house.write(word(2), end.answer, depth);
        }
        return well(end.code);
    }

    private static int code(String told) {
        int known = List.of("ok", "error", "return", "break", "continue").indexOf(told);
        BigInteger number = known >= 0 ? BigInteger.valueOf(known) : PlainValues.integer(told);
        if (number == null || number.bitLength() > 31) {
            throw wrong("bad code: " + told);
        }
        return number.intValue();
    }

    private static int left(String told) {
        BigInteger number = PlainValues.integer(told);
        if (number == null || number.signum() < 0) {
            throw wrong("bad level: " + told);
        }
        // No call stands on so many others.
        return number.min(BigInteger.valueOf(MOST_LEVELS)).intValue();
    }

    private PlainHouse.End returns() {
        List<String> options = new ArrayList<>();
        for (int i = 1; i < many; i += 2) {
            options.add(word(i));
        }
        wants(List.of("-code", "-level").containsAll(options) && Set.copyOf(options).size() == options.size());
        int code = 0;
        int left = 1;
        for (int i = 1; i < many; i += 2) {
            code = word(i).equals("-code") ? code(word(i + 1)) : code;
            left = word(i).equals("-level") ? left(word(i + 1)) : left;
        }
        String answer = many % 2 == 1 ? word(many) : "";
        return left == 0 ? new PlainHouse.End(code, answer, 1, 0) : new PlainHouse.End(2, answer, left, code);
    }

    private PlainHouse.End substitute() {
        wants(1, 1);
        try {
            return well(house.text(new PlainCutter(word(1)).parts(PlainCutter.Until.THE_END, false, 0), depth));
        } catch (PlainCutter.Fault fault) {
            throw wrong(fault.text);
        }
    }

    private PlainHouse.End puts() {
        wants(many == 1 || many == 2 && word(1).equals("-nonewline"));
        house.output.append(many == 2 ? word(2) : word(1) + "\n");
        house.output.setLength(Math.min(house.output.length(), 3000));
        return well("");
    }

    private PlainHouse.End each(boolean map) {
        wants(many >= 3 && many % 2 == 1);
        List<List<String>> names = new ArrayList<>();
        for (int i = 1; i < many; i += 2) {
            names.add(PlainValues.list(word(i)));
            if (names.get(names.size() - 1).isEmpty()) {
                throw wrong("no names");
            }
        }
        List<List<String>> lists = new ArrayList<>();
        int rounds = 0;
        for (int i = 2; i < many; i += 2) {
            List<String> list = PlainValues.list(word(i));
            int width = names.get(lists.size()).size();
            rounds = Math.max(rounds, (list.size() + width - 1) / width);
            lists.add(list);
        }
        List<String> answers = new ArrayList<>();
        for (int round = 0; round < rounds; round++) {
            writeRound(names, lists, round);
            PlainHouse.End end = script(many);
            if (end.code == 3) {
                break;
            }
            if (end.code != 0 && end.code != 4) {
                return end;
            }
            answers.addAll(end.code == 0 ? List.of(end.answer) : List.of());
        }
        return map ? well(answers) : well("");
    }

    private void writeRound(List<List<String>> names, List<List<String>> lists, int round) {
        for (int i = 0; i < names.size(); i++) {
            for (int k = 0; k < names.get(i).size(); k++) {
                int place = round * names.get(i).size() + k;
                house.write(names.get(i).get(k), place < lists.get(i).size() ? lists.get(i).get(place) : "", depth);
            }
        }
    }

    // Calls, rooms and coroutines

    private PlainHouse.End ofCalls(String name) {
        switch (name) {
            case "uplevel": return uplevel();
            case "proc": return proc();
            case "apply": return apply();
            case "rename": return rename();
            case "coroutine": return coroutine();
            default: wants(0, 1); return well(house.yield(many == 1 ? word(1) : ""));
        }
    }

    private PlainHouse.End uplevel() {
        boolean told = many >= 2 && tellsLevel(word(1));
        int level = levelNumber(told ? word(1) : "1");
        String script = scriptFrom(told ? 2 : 1);
        PlainHouse.mustNotBeTooDeep(depth);
        List<PlainHouse.Level> levels = house.levels;
        house.levels = new ArrayList<>(levels.subList(0, level + 1));
        PlainHouse.End end = house.script(script, depth + 1);
        house.levels = levels;
        return end;
    }

    private static List<List<String>> formals(String list) {
        List<List<String>> formals = new ArrayList<>();
        for (String text : PlainValues.list(list)) {
            List<String> formal = isList(text) ? PlainValues.list(text) : List.of();
            String name = formal.isEmpty() ? "" : formal.get(0);
            if (name.isEmpty() || formal.size() > 2 || name.indexOf('(') >= 0 || name.indexOf(':') >= 0) {
                throw wrong("bad formal: " + text);
            }
            formals.add(formal);
        }
        return formals;
    }

    private PlainHouse.End proc() {
        wants(3, 3);
        PlainHouse.Room room = house.home(word(1));
        String tail = PlainHouse.tail(word(1));
        PlainHouse.Command before = room.commands.get(tail);
        if (before != null && before.isRunning()) {
            throw wrong("is running: " + word(1));
        }
        house.place(new PlainHouse.Command(null, formals(word(2)), word(3), null), room, tail);
        return well("");
    }

    private PlainHouse.End apply() {
        wants(many >= 1);
        List<String> lambda = PlainValues.list(word(1));
        if (lambda.size() < 2 || lambda.size() > 3) {
            throw wrong("no lambda: " + word(1));
        }
        List<List<String>> formals = formals(lambda.get(0));
        PlainHouse.Room room = lambda.size() == 3 ? house.room(lambda.get(2), house.root, false) : house.root;
        if (room == null) {
            throw wrong("no room: " + lambda.get(2));
        }
        return house.procedure(formals, lambda.get(1), words, 2, room, depth);
    }

    private PlainHouse.End rename() {
        wants(2, 2);
        PlainHouse.Command command = house.find(word(1));
        if (command == null) {
            throw wrong("no command: " + word(1));
        }
        if (word(2).isEmpty()) {
            if (command.isRunning()) {
                throw wrong("is running: " + word(1));
            }
            house.drop(command);
            return well("");
        }
        PlainHouse.Room room = house.home(word(2));
        String tail = PlainHouse.tail(word(2));
        if (room.commands.containsKey(tail)) {
            throw wrong("is there: " + word(2));
        }
        command.room.commands.remove(command.tail);
        house.place(command, room, tail);
        return well("");
    }

    private PlainHouse.End coroutine() {
        wants(many >= 2);
        PlainHouse.Room room = house.home(word(1));
        String tail = PlainHouse.tail(word(1));
        if (room.commands.containsKey(tail)) {
            throw wrong("is there: " + word(1));
        }
        PlainHouse.Coroutine coroutine = new PlainHouse.Coroutine(new ArrayList<>(from(2)));
        return house.start(new PlainHouse.Command(null, null, null, coroutine), room, tail);
    }

    private PlainHouse.End namespace() {
        String act = family("eval 2 99999 current 1 1 exists 2 2 delete 2 2 qualifiers 2 2 tail 2 2");
        PlainHouse.Room here = house.level().room;
        switch (act) {
            case "eval":
                PlainHouse.mustNotBeTooDeep(depth);
                house.push(new PlainHouse.Level(house.room(word(2), here, true), null, words));
                PlainHouse.End end = house.script(scriptFrom(3), depth + 1);
                house.pop();
                return end;
            case "current": return well(here.fullName());
            case "exists": return well(house.room(word(2), here, false) != null);
            case "delete": return delete(house.room(word(2), here, false));
            case "qualifiers": return well(PlainHouse.qualifiers(word(2)));
            default: return well(PlainHouse.tail(word(2)));
        }
    }

    private PlainHouse.End delete(PlainHouse.Room room) {
        if (room == null) {
            throw wrong("no room: " + word(2));
        }
        if (house.isInUse(room)) {
            throw wrong("in use: " + word(2));
        }
        house.delete(room);
        return well("");
    }
}
