import java.util.ArrayList;
import java.util.List;
import java.util.Random;

/** Scripts by chance, the same ones for the same number: shapes whose gaps (capital letters that stand alone) are filled. */
final class PlainScripts {
    enum Kind { NAMES, CAUGHT, VALUES, LETTERS, EXPRESSIONS, LIMIT, DEEP, LARGE, LONG }

    private static final String[] ABOUT_NAMES = {"set N V", "set N V", "set N", "incr N", "incr N Z", "append N V",
        "append N V V", "append N", "lappend N V", "lappend N", "unset N", "unset -nocomplain N N", "global A", "global N",
        "variable A", "variable A V", "variable N V", "upvar K N A", "upvar K N A", "upvar N A", "upvar 0 N N",
        "array exists N", "array get N", "array names N P", "array size N", "array set N D", "array set N {1 a x b}",
        "array set N {}", "array unset N", "array unset N P", "info exists N", "info level", "info level 1", "info level 2",
        "info procs", "info commands {[a-c]*}", "info coroutine", "info args C", "info body C", "namespace current", "puts V",
        "puts -nonewline V", "trace add variable N O W", "trace add variable A O W", "trace add variable N O {B;#}",
        "trace add variable N O {B; B; B;#}", "trace remove variable N O W", "trace info variable N", "break", "continue",
        "return V", "return -code Y V", "return -code Y -level Q V", "error V", "yield", "yield V", "C", "C V", "C V V", "co",
        "co V", "rename C C", "rename C {}", "namespace exists R", "namespace delete R", "namespace tail C",
        "namespace qualifiers N", "lset N I V", "lassign L N N", "dict set N a V", "dict lappend N a V", "dict incr N a",
        "dict unset N a"};
    private static final String[] WITH_SCRIPTS = {"proc C {} S", "proc C {x {y 5}} S", "proc C args S", "proc C {n i o} S",
        "proc C {x args} S", "proc C L S", "if E S", "if E S else S", "if E S elseif E then S else S", "while {[incr n] < Q} S",
        "for {set i 0} {$i < Q} {incr i} S", "foreach N {1 2 3} S", "foreach {x y} {1 2 3} S", "foreach {} L S",
        "lmap x {1 2 {4 5}} S", "catch S", "catch S N", "try S finally S", "try S then S", "uplevel K S", "uplevel S V",
        "apply {x S} V", "apply {{} S}", "apply {args S R} V V", "namespace eval R S", "namespace eval R S",
        "coroutine C eval S", "coroutine C apply {{} S}", "coroutine C apply {args S} V", "coroutine C namespace eval R S",
        "coroutine C C V", "coroutine co eval S", "coroutine co eval {trace add variable A O {yield;#}; B}",
        "coroutine C eval {B; set x [yield]; B}", "eval S V", "switch V {1 S default S}", "switch -glob V P S 2 - default S",
        "dict for {x y} {a 1 b 2} S", "set a [B]", "subst {$a[B]}", "expr {[B] X 1}", "V V"};
    private static final String[] ABOUT_VALUES = {"set l L", "set d D", "set t T", "list L T L", "llength L", "lindex L",
        "lindex L I", "lindex L I I", "lset l I T", "lset l I I T", "lset l T", "lrange L I I", "linsert L I T L",
        "linsert L I", "lreplace L I I T", "lreplace L I I", "lreverse L", "lrepeat Z T", "lrepeat Z", "concat L T L", "join L",
        "join L T", "split T", "split T {}", "split T T", "lassign L x y", "lsearch L P", "lsearch -exact L T",
        "lsearch -glob L P", "lsearch -all L P", "lsort -all L", "lsort L", "lsort -integer L", "lsort -unique -decreasing L",
        "lsort -integer -unique L", "dict create a 1 T L", "dict create a 1 a", "dict get D a", "dict get D a c", "dict get D",
        "dict exists D a c", "dict set d a T", "dict set d b c T", "dict set l x T", "dict unset d b c", "dict unset d x",
        "dict incr d a Z", "dict incr e x", "dict lappend d a T L", "dict lappend e b", "dict keys D P", "dict values D",
        "dict size L", "dict merge D D", "dict for {k v} D {append o $k=$v}", "dict for k D {}", "foreach {} L {}",
        "foreach x T {}", "string length T", "string index T I", "string range T I I", "string first T T", "string last a T",
        "string compare T T", "string equal T T", "string match P T", "string map D T", "string repeat T Z", "string reverse T",
        "string tolower T", "string toupper T", "string trim T", "string trimleft T ab", "string trimright T T",
        "string cat T T", "string is integer Z", "string is boolean T", "string is list L", "string is alnum T",
        "string is space T", "string is upper T", "subst T", "subst {a$t}", "expr E", "expr X", "foreach x L {append o $x}",
        "foreach {x y} L z D {append o $x$z}", "lmap x L {list $x $x}", "switch T {abc {list 1} default {list 2}}",
        "switch T {abc - {} - AbC {list 3} default -}", "expr \"Z +\\\\\n  Z\"", "switch -glob T L",
        "if Z {list y} else {list n}", "append t T T", "lappend l T L", "string", "dict foo", "lsort", "return -code",
        "if 1 then", "switch -- a", "puts a b", "unset", "upvar a", "apply x", "proc p {{a b c}} {}", "uplevel", "lrepeat",
        "incr x 1 2", "error", "break a", "coroutine a", "trace add foo a write p"};
    private static final String[] LETTERS = {"a", "set a ", "$a", "${a}", "${", "$", "[", "]", "[set a]", "{", "}", "\"", "\\",
        "\\\n", "\\\n \t ", "\n", ";", " ", "\t", "\u000b", "(", ")", "#", "{*}", "$a(", "$a(1)", "\\x41", "\\x", "\\101",
        "\\8", "\\n", "::", ":", "list ", "puts ", "\\{", "\\\\", "\u00e9", "\0", "b c", "llength ", "lindex ", "subst ",
        "{a b}", "\"a b\"", "$::a", "$a::", "concat "};
    private static final String[] BEGINS = {"", "", "list ", "llength {", "lreverse {", "subst {", "puts \"", "eval {",
        "dict size {", "set a 1; ", "expr {"};
    private static final String[] DEEPER = {"B", "eval {B}", "uplevel K {B}", "namespace eval r {B}", "if 1 {B}",
        "foreach z {1 2} {B}", "catch {B} m", "apply {{} {B}}", "try {B} finally {incr ::x}", "while 1 {B;break}",
        "set ::a [B]", "switch 1 {1 {B}}", "lmap z 1 {B}", "for {} 1 {B} {B}", "dict for {z y} {1 2} {B}", "subst {[B]}",
        "expr {[B]}", "coroutine co$::i eval {B}", "if {[B] == 1} {}"};
    private static final String[] ROUNDS = {"set a($i) [string repeat T Q]", "lappend l $i T", "set v$i $i",
        "namespace eval r$i {variable x 1}", "proc p$i {a {b 2}} {return $a$b}",
        "if {$i < 15} {coroutine c$i apply {{} {set x [info coroutine]; while 1 {append x [yield $x]}}}}", "catch {c$i $i} m",
        "dict set d k$i $i", "dict set d k$i s$i [expr {$i * $i}]", "trace add variable a($i) write {incr ::x;#}",
        "append e + $i", "rename p$i q$i", "catch {unset a($i)}", "append s T", "set a($i) $i"};
    private static final String[] LOOKS = {"llength $l", "array size a", "array get a", "expr 1$e", "dict get $d k1",
        "set a(1) 5; set x", "lsort $l", "c1 z", "p1 7", "string length $s", "unset -nocomplain a l s", "namespace delete r1",
        "list {*}$l", "lreverse $l", "info procs", "foreach {k v} [array get a] {append o $k [string length $v]}; set o"};
    private static final String[] SIGNS = {"+", "-", "*", "/", "%", "**", "<<", ">>", "<", ">", "<=", ">=", "==", "!=", " eq ",
        " ne ", " in ", " ni ", "&", "^", "|", "&&", "||"};
    private static final String[] OPERANDS = {"0", "1", "2", "3", "7", "63", "64", "0x10", "0b11", "0o17",
        "9223372036854775807", "9223372036854775808", "08", "4611686018427387904", "1a", "true", "no", "on", "foo", "\"abc\"",
        "\"1\"", "\"$t\"", "\"x[list 1]\"", "\" 1\"", "{abc}", "{a b}", "{}", "{-1}", "$x", "$t", "$nope", "$a(1)", "$",
        "[list 1]", "[set x 3]", "[error e]", "[break]", "[yield 1]", "[", "", "(", "-1", "-9223372036854775807",
        "(-9223372036854775807-1)", "-(-9223372036854775807-1)", "abs(-9223372036854775807-1)"};
    private static final String[] NAMES = {"a", "a", "b", "c", "x", "a(1)", "a(1)", "a(x)", "b(1)", "::a", "::b", "r::a",
        "::r::a", "::a(1)", "r::a(1)", "v"};
    private static final String[] ODD_NAMES = {"{}", "::", "a(", "a)", "()", "a()", "a:b", ":a", "q::a", "a::", ":::a", "r:::a",
        "#", "{a b}", "(1)", "a(b(c))", "::(1)"};
    private static final String[] VALUES = {"0", "1", "5", "-3", "abc", "{a b}", "{}", "{a 1 b 2}", "$a", "$b", "$x", "$a(1)",
        "$a($x)", "${a(x)}", "$r::a", "\"p $a\"", "k$x", "{*}$a", "{*}\\{", "\\n", "{#}", "\\{"};
    private static final String[] LISTS = {"{a b c}", "{1 2 3 4}", "{}", "{a {b c} d}", "{x {y {z w}}}", "{3 1 2 1 03}",
        "{a {b c}x}", "{a \"b}", "{a b\\ c \\{}", "$l", "$d", "{{} a {}}", "{#a b}", "{a\\\n  b}", "{\"a b\" c}", "abc",
        "{ a  b }", "{B a C A b}", "{0x10 16 020}", "{a [b] $c}", "\\;"};
    private static final String[] DICTIONARIES = {"{}", "{a 1 b 2}", "{a 1 b {c 3 d 4}}", "{a 1 a 2}", "$d", "{a}",
        "{aa 1 a 2}", "{{} q a z}", "{b {c}}"};
    private static final String[] INDEXES = {"0", "1", "2", "end", "end-1", "end+1", "-1", "5", "x", "99999999999999999999",
        "end-9223372036854775807", "0x1", "end-", "end-x", "{}"};
    private static final String[] PATTERNS = {"a*", "*", "?", "{[a-c]}", "{[c-a]*}", "{[]}", "{[a}", "{a\\}", "{[a-]}",
        "{[-a]}", "*b*", "{}", "{*[xyz]?}", "1", "??*"};
    private static final String[] TEXTS = {"abc", "{hello world}", "{}", "{ a b }", "aXbXc", "AbC", "\"a\\tb\\n\"", "123",
        "\\x00\\xff", "aaa", "$t", "{[a]}", "#", "{a\\}b}", "yes", "-1"};
    private static final String[] NUMBERS = {"0", "1", "3", "-2", "x", "9223372036854775807", "-9223372036854775808",
        "9223372036854775808", "0b101", "0xAf", "0XA", "+4", "{}", "08", "{ 1}"};
    private static final String[] TRUTHS = {"1", "0", "$a", "$x > 1", "[info exists a]", "[incr x] < 4"};
    private static final String[] COMMANDS = {"p", "q", "co", "ca", "f"};
    private static final String[] ODD_COMMANDS = {"r::p", "::r::p", "s::q", "::p", "r::co", "::co", "q::p", "unknown", "::",
        "p::"};
    private static final String[] ROOMS = {"r", "r", "s", "::r", "r::s", "::s", "r", "s"};
    private static final String[] ODD_ROOMS = {"{}", "::", "q", "r::", "r:::s"};
    private static final String[] ACTS = {"read", "write", "unset", "{read write}", "{write unset}", "{read write unset}", "{}",
        "{write write}", "x"};
    private static final String[] CODES = {"0", "1", "2", "3", "4", "5", "-1", "break", "return", "error", "ok", "x",
        "99999999999"};
    private static final String[] WATCHERS = {"p", "q", "puts", "{lappend log}", "{unset -nocomplain b;#}", "{incr x;#}",
        "{error no;#}", "{yield;#}", "{co;#}", "{set b 9;#}", "{unset a;#}",
        "{unset a(1); trace add variable a(1) write q; set a(1) 2;#}", "{trace remove variable a write p;#}",
        "{trace add variable b write q;#}", "{namespace delete r;#}", "{set a $b;#}", "{array unset a;#}", "{return -code 7;#}",
        "{incr a(1);#}", "{apply {{n i o} {upvar 1 $n v; puts $n,$i,$o}}}"};
    private static final String[] NESTED = {"[list ~]", "$a(~)", "[set a(~)]", "\"[list ~]\"", "(~)", "-~", "abs(~)", "2**~",
        "1?~:3", "1?2:~", "max(1,~)"};
    private static final String[] SPOILERS = {"{", "}", "[", "]", "\"", "\\", "$", ";", "\n", "(", ")", " ", ""};
    private static final String[] TOUCHES = {"set w? 1", "set w? 1", "set w?", "unset w?", "catch {set w? 1} m;puts $m",
        "incr w?"};
    private static final String[] UNITS = {"x ", "{} ", "\\\\{ ", "a\\\\ b ", "\\\\\\\\", "\\{", "\\}", "\\\" ", "\\$", "\\[",
        "k v ", "{a b} ", "\\\\x41", "\\n", ";", "#", "-1 ", "1 ", "x", "[list] ", "\\$x ", "\\\\\\n ", "1+", "(", "!", "1||",
        "0?1:", "-", "\\\"", "set z 1;", "{*}\\$x ", "\\$x(", "\\[set x]", "k {k {k 1}} ", "::", "a::", "k 1 k 2 "};
    private static final String[] ABOUT_LONG = {"list H H", "llength H", "lindex H end-5", "lappend a H", "lappend l H H",
        "append b H", "lset a 0 H", "lset a end 0 H", "lrange H 1 end", "linsert H 1 H", "lreplace H 0 1 H", "lreverse H",
        "lsort H", "lsort -unique H", "lsort -integer H", "join H x", "join H {}", "split H x", "split H {}", "split H",
        "concat H H", "eval H", "expr H", "expr {$a eq $b}", "expr {1 in $a}", "expr {\"$a$b\" < $b}", "subst H",
        "foreach x H {}", "foreach x H {append o $x}", "foreach x H {lappend o $x}", "foreach H {1 2 3} {}",
        "lmap x H {list $x}", "lassign H p q", "lassign {1 2 3} H", "dict size H", "dict get H k", "dict get H k k k",
        "dict set a k H", "dict set d H 1", "dict lappend a k H", "dict unset a k", "dict unset a k k", "dict incr d H",
        "dict merge H H", "dict for {x y} H {}", "dict for {x y} H {append o $y}", "array set m H", "set m($a) H",
        "array get m", "string length H", "string map {x yy 1 {}} H", "string map H $b", "string repeat H 2",
        "string range H 5 end", "string reverse H", "string trim H", "string cat H H", "string is list H", "p H H", "q H",
        "f H", "f H H", "proc f H {info level 1}", "proc f {x {y $a}} {set y}", "proc f [list [list x $a]] {set x}", "apply H",
        "apply {args {llength $args}} H H", "apply {args {info level 1}} H", "if H {set n 1}", "while H break", "catch H n",
        "trace add variable t write H; set t 1", "set t H", "puts H", "error H", "coroutine c apply {args {yield $args}} H",
        "c H", "uplevel #0 H", "namespace eval H {set q 1}", "H H", "set m(x$a)", "list {*}$a [continue]",
        "list {*}$a {*}$b [error e]", "set e [list H]"};
    private static final String[] LONG_VALUES = {"$a", "$a", "$b", "$x", "\"$a$b\"", "[set a]", "{*}$a", "{*}$b", "{*}$a",
        "x$a", "$m(1)", "{*}[set b]"};

    private final Random random;

    private PlainScripts(long seed) {
        random = new Random(seed);
    }

    /** Scripts to be evaluated one behind the other. */
    static List<String> of(Kind kind, long seed) {
        PlainScripts scripts = new PlainScripts(seed * 31 + kind.ordinal());
        List<String> all = new ArrayList<>();
        int many = 1 + scripts.below(kind == Kind.LARGE ? 24 : 8);
        for (int i = 0; i < many; i++) {
            String script = scripts.script(kind);
            script = scripts.below(20) == 0 ? scripts.spoiled(script) : script;
            all.add(script.substring(0, Math.min(5900, script.length())));
        }
        return all;
    }

    private int below(int bound) {
        return random.nextInt(bound);
    }

    private String pick(String... from) {
        return from[below(from.length)];
    }

    private String spoiled(String script) {
        int at = below(script.length() + 1);
        int size = Math.min(below(2), script.length() - at);
        return script.substring(0, at) + pick(SPOILERS) + script.substring(at + size);
    }

    private String script(Kind kind) {
        switch (kind) {
            case CAUGHT: return callbacks() + caught(kind);
            case VALUES: return below(3) == 0 ? commands(ABOUT_VALUES, 0) : caught(kind);
            case LETTERS: return letters();
            case EXPRESSIONS: return below(3) == 0 ? "expr " + expression(3) : caught(kind);
            case LIMIT: return nearLimit();
            case DEEP: return below(2) == 0 ? deep() : commands(ABOUT_NAMES, 1);
            case LARGE: return below(4) == 0 ? commands(ABOUT_NAMES, 1) : large();
            case LONG: return below(3) == 0 ? longText() : commands(ABOUT_LONG, 0);
            default: return commands(ABOUT_NAMES, below(3));
        }
    }

    private String commands(String[] shapes, int depth) {
        StringBuilder text = new StringBuilder();
        int many = below(10) == 0 ? 0 : 1 + below(3);
        for (int i = 0; i < many; i++) {
            text.append(i > 0 ? pick("; ", "\n", ";") : "").append(command(shapes, depth));
        }
        return text.toString();
    }

    private String command(String[] shapes, int depth) {
        return fill(depth > 0 && below(2) == 0 ? pick(WITH_SCRIPTS) : pick(shapes), depth);
    }

    private String callbacks() {
        return below(3) == 0 ? "proc p args {puts p:$args}; proc q {n i o} {upvar 1 $n v; puts $n,$i,$o}\n" : "";
    }

    /** Commands that go on whatever the ones ahead of them ended with, and tell it. */
    private String caught(Kind kind) {
        StringBuilder text = new StringBuilder();
        int many = 3 + below(12);
        for (int i = 0; i < many; i++) {
            text.append("catch {").append(toCatch(kind)).append("} e; puts $e\n");
        }
        return text.toString();
    }

    private String toCatch(Kind kind) {
        switch (kind) {
            case VALUES: return command(ABOUT_VALUES, 0);
            case EXPRESSIONS: return "expr {" + expression(below(4)) + "}";
            default: return below(8) == 0 ? deep() : command(ABOUT_NAMES, 1 + below(3));
        }
    }

    private String letters() {
        StringBuilder text = new StringBuilder(pick(BEGINS));
        int many = 1 + below(14);
        for (int i = 0; i < many; i++) {
            text.append(below(3) == 0 ? pick("{", "}", "\"", "[", "]", " ", "a") : pick(LETTERS));
        }
        return text.append(below(3) == 0 ? pick("}", "\"", "} 0", "]", ")") : "").toString();
    }

    /** What is done when little WORK is left, or again and again until none is. */
    private String nearLimit() {
        String script = below(4) == 0 ? commands(ABOUT_VALUES, 0) : below(6) == 0 ? deep() : commands(ABOUT_NAMES, below(4));
        switch (below(4)) {
            case 0: return "for {set q 0} {$q < " + below(2000) + "} {incr q} {" + script + "}";
            case 1: return script;
            default: return "string repeat x " + (30000 - 28 - below(below(2) == 0 ? 60 : 900)) + "; " + script;
        }
    }

    private String deep() {
        switch (below(6)) {
            case 0: return watchesWithin();
            case 1: return coroutinesWithin();
            case 2: return nested();
            default: return callsWithin();
        }
    }

    private String callsWithin() {
        String until = below(3) == 0 ? "if {$::i > " + below(120) + "} {" + command(ABOUT_NAMES, 0) + "}; " : "";
        String inner = wrapped(below(2) == 0 ? wrapped("f") : "f");
        String behind = pick("", "; incr ::x", "; puts [info level]", "; error e", "; yield");
        return "set i 0; proc f args {" + pick("", "incr ::i; ", "upvar 1 a b; ") + until + inner + behind + "}\n" + wrapped("f")
            + pick("", "; set i");
    }

    private String coroutinesWithin() {
        String last = pick("{yield $n}", "{error $n}", "co0", "{rename co3 {}}", "{while 1 {}}");
        String next = "coroutine co$n k [expr {$n + 1}]";
        String body = "if {$n > " + below(24) + "} " + last + "; " + pick(next, "catch {" + next + "} m; puts $m");
        return "proc k n {" + body + pick("", "; yield $n") + "}\n" + pick("k 0", "coroutine c k 0", "catch {k 0}; co3; co5 4");
    }

    private String wrapped(String call) {
        return pick(DEEPER).replace("B", call).replace("K", pick("0", "1", "#0", "#1"));
    }

    private String watchesWithin() {
        StringBuilder text = new StringBuilder();
        String acts = pick("write", "read", "unset", "{read write}", "{write unset}");
        int many = 8 + below(6);
        for (int i = 0; i < many; i++) {
            String act = pick(TOUCHES).replace("?", "" + (i + 1));
            text.append("trace add variable w").append(i).append(' ').append(acts).append(" {").append(act).append(";#}\n");
            text.append(below(2) == 0 ? "catch {set w" + i + " 0};" : "");
        }
        return text.append(pick("set w0 1", "set w0", "unset w0", "catch {set w0 1} m; set m", "incr w0")).toString();
    }

    private String nested() {
        int many = 46 + below(8);
        String[] pair = pick(NESTED).split("~", -1);
        boolean script = pair[0].startsWith("[") || pair[0].startsWith("$") || pair[0].startsWith("\"");
        String text = pair[0].repeat(many) + "1" + pair[1].repeat(many);
        return script ? pick("set b ", "puts ") + text : "expr {" + text + "}";
    }

    private String large() {
        String round = "for {set i 0} {$i < " + (1 + below(below(2) == 0 ? 30 : 300)) + "} {incr i} {" + fill(pick(ROUNDS), 0) + "}";
        return below(3) == 0 ? pick(LOOKS) : round + "\n" + pick(LOOKS);
    }

    /** A name's value of up to as many letters as WORK is enough for. */
    private String longText() {
        String unit = pick(UNITS);
        int letters = Integer.parseInt(pick("300", "3000", "9900", "14000", "14900", "28000", "29500")) + below(200);
        int size = unit.replaceAll("\\\\(.)", "$1").length();
        String behind = below(5) == 0 ? "; append a " + pick("x", "\\{", "\\}", "1", "\\\\") : "";
        return "set x 1; proc p args {llength $args}; proc q {{u 1} args} {string length $u}\ncatch {string repeat \"" + unit + "\" "
            + letters / size + "} " + pick("a", "b") + behind;
    }

    private String expression(int depth) {
        StringBuilder text = new StringBuilder(operand(depth));
        int many = depth == 0 ? 0 : below(3);
        for (int i = 0; i < many; i++) {
            text.append(pick("", " ")).append(pick(SIGNS)).append(pick("", " ", "\n", "\\\n ")).append(operand(depth - 1));
        }
        return text.append(depth > 0 && below(6) == 0 ? "?" + expression(depth - 1) + ":" + expression(depth - 1) : "").toString();
    }

    private String operand(int depth) {
        switch (below(depth > 0 ? 5 : 3)) {
            case 0: return pick("-", "+", "~", "!") + (depth > 0 ? operand(depth - 1) : "1");
            case 3: return "(" + expression(depth - 1) + ")";
            case 4: return pick("abs", "min", "max") + "(" + expression(depth - 1) + pick("", "," + expression(depth - 1)) + ")";
            default: return pick(OPERANDS);
        }
    }

    private String fill(String shape, int depth) {
        StringBuilder text = new StringBuilder();
        for (int i = 0; i < shape.length(); i++) {
            boolean alone = (i == 0 || !Character.isLetter(shape.charAt(i - 1)))
                && (i == shape.length() - 1 || !Character.isLetter(shape.charAt(i + 1)));
            text.append(alone ? gap(shape.charAt(i), depth) : String.valueOf(shape.charAt(i)));
        }
        return text.toString();
    }

    private String gap(char c, int depth) {
        switch (c) {
            case 'N': return pick(below(12) == 0 ? ODD_NAMES : NAMES);
            case 'A': return pick("a", "b", "c", "x");
            case 'V': return depth > 0 && below(3) == 0 ? "[" + command(ABOUT_NAMES, depth - 1) + "]" : pick(VALUES);
            case 'L': return pick(LISTS);
            case 'D': return pick(DICTIONARIES);
            case 'I': return pick(INDEXES);
            case 'P': return pick(PATTERNS);
            case 'T': return pick(TEXTS);
            case 'Z': return pick(NUMBERS);
            case 'Q': return pick("0", "1", "2", "3", "5");
            case 'H': return pick(LONG_VALUES);
            default: return controlGap(c, depth);
        }
    }

    private String controlGap(char c, int depth) {
        switch (c) {
            case 'S': return "{" + (depth > 0 ? commands(ABOUT_NAMES, depth - 1) : command(ABOUT_NAMES, 0)) + "}";
            case 'B': return command(ABOUT_NAMES, Math.max(0, depth - 1));
            case 'E': return "{" + (below(2) == 0 ? expression(2) : pick(TRUTHS)) + "}";
            case 'X': return expression(1);
            case 'C': return pick(below(5) == 0 ? ODD_COMMANDS : COMMANDS);
            case 'R': return pick(below(8) == 0 ? ODD_ROOMS : ROOMS);
            case 'K': return pick("0", "1", "1", "2", "#0", "#1", "#2", "3", "#x");
            case 'O': return pick(ACTS);
            case 'Y': return pick(CODES);
            case 'W': return pick(WATCHERS);
            default: return String.valueOf(c);
        }
    }
}
