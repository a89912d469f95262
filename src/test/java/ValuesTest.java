/** Part III and the commands about lists, DICTIONARIES and letters. */
public final class ValuesTest {
    public static void main(String[] args) {
        written();
        read();
        indexes();
        lists();
        sorting();
        dictionaries();
        dictionaryChanges();
        strings();
        patterns();
        names();
        Check.end();
    }

    private static void written() {
        Check.well("list {} a {b c} #d", "{} a {b c} #d");
        Check.well("list #a #b", "{#a} #b");
        Check.well("list {#a\\}}", "\\#a\\\\\\}");
        Check.well("list {a\\b} \"a{b\" \"a}b{\" {a{b}c} {[} {$x} {;} {\"}", "a\\\\b a\\{b a\\}b\\{ {a{b}c} {[} {$x} {;} {\"}");
        Check.well("list \"\\t\" \"\\n{\" \"\\v\\f\\r}\"", "{\t} \\n\\{ \\v\\f\\r\\}");
        Check.well("list \"a b\\\\\"", "a\\ b\\\\");
        Check.well("list \\x85 \\x00", "\u0085 \u0000");
        Check.well("llength [list a {b c} {} \\{ {x\\ y}]", "5");
    }

    private static void read() {
        Check.well("lindex { a  {b c}\t\"d e\" f\\ g } end", "f g");
        Check.well("llength \" a \\n b \"", "2");
        Check.well("lindex {{a\\}b}} 0", "a\\}b");
        Check.well("lindex {\"a\\\"b\\x41\"} 0", "a\"bA");
        Check.well("lindex {a\\x41\\n} 0", "aA\n");
        Check.well("lindex \"a\\\\\\n  b c\" 0", "a b");
        Check.well("lindex \"{a\\\\\\n  b} c\" 0", "a\\\n  b");
        Check.well("lindex {a{b} c\"d e} 0", "a{b}");
        Check.well("lindex \"a\\\\\" 0", "a\\");
        Check.well("llength {}", "0");
        Check.error("llength \"{a\"", "missing brace");
        Check.error("llength {\"a}", "missing quote");
        Check.error("llength {{a}b}", "letters behind brace");
        Check.error("llength {\"a\"b}", "letters behind quote");
        Check.error("llength \"{a}b {c\"", "letters behind brace");
    }

    private static void indexes() {
        Check.well("lindex {a b c} 1", "b");
        Check.well("lindex {a b c} end", "c");
        Check.well("lindex {a b c} end-1", "b");
        Check.well("lindex {a b c} end+0", "c");
        Check.well("lindex {a b c} end+1", "");
        Check.well("lindex {a b c} -1", "");
        Check.well("lindex {a b c} 0x2", "c");
        Check.well("lindex {a b c} +1", "b");
        Check.well("lindex {a b c} 99999999999", "");
        for (String bad : new String[] {"x", "end-", "end-x", "end1", "1.0", "{}", "en", "end--1", "9223372036854775808",
            "end-9223372036854775808", "{end -1}"}) {
            Check.error("lindex {a b c} " + bad, "bad index: " + bad.replace("{", "").replace("}", ""));
        }
        Check.well("lindex {a b c} end-9223372036854775807", "");
        Check.well("lindex {a {b {c d}}} 1 1 0", "c");
        Check.well("lindex {a {b c}} 5 0", "");
        Check.error("lindex {a {b c}} 5 x", "bad index: x");
        Check.well("lindex \"{\"", "{");
        Check.error("lindex {a \\{b} 1 0", "missing brace");
    }

    private static void lists() {
        Check.well("lrange {a b {c d} e} 1 2", "b {c d}");
        Check.well("lrange {a b c} -5 end+5", "a b c");
        Check.well("lrange {a b c} 2 1", "");
        Check.well("lrange {a b c} 5 9", "");
        Check.well("lrange { a   b } 0 end", "a b");
        Check.error("lrange {a b} x y", "bad index: x");
        Check.well("linsert {a b} 1 x {y z}", "a x {y z} b");
        Check.well("linsert {a b} end x", "a b x");
        Check.well("linsert {a b} end-1 x", "a x b");
        Check.well("linsert {a b} -3 x", "x a b");
        Check.well("linsert {a b} 7 x", "a b x");
        Check.well("linsert {a   b} 0", "a b");
        Check.well("lreplace {a b c d} 1 2", "a d");
        Check.well("lreplace {a b c} 1 0 x", "a x b c");
        Check.well("lreplace {a b c} 5 6 x", "a b c x");
        Check.well("lreplace {a b c} -5 -3 x", "x a b c");
        Check.well("lreplace {a b c} -5 0 x", "x b c");
        Check.well("lreplace {} 0 0 x", "x");
        Check.well("lreverse {a {b c} d}", "d {b c} a");
        Check.well("lrepeat 3 a {b c}", "a {b c} a {b c} a {b c}");
        Check.well("lrepeat 0 a", "");
        Check.well("lrepeat 3", "");
        Check.error("lrepeat -1 a", "bad count: -1");
        Check.error("lrepeat x a", "no number: x");
        Check.well("lrepeat 9223372036854775807", "");
        Check.well("concat { a b } {} {  } {c  d}", "a b c  d");
        Check.well("concat", "");
        Check.well("join {a {b c} d}", "a b c d");
        Check.well("join {a {b c} d} ,", "a,b c,d");
        Check.well("split {a,b;c} {,;}", "a b c");
        Check.well("split {a b\tc}", "a b c");
        Check.well("split {,a,,b,} ,", "{} a {} b {}");
        Check.well("split abc {}", "a b c");
        Check.well("split {}", "");
        Check.well("split {} {}", "");
        Check.well("split {#a b} { }", "{#a} b");
        Check.well("split {x #a}", "x #a");
        Check.well("lassign {1 2 3} a b; list $a $b [lassign {1 2 3} a] [lassign {} a] $a", "1 2 {2 3} {} {}");
        Check.well("lassign {1 {2 3}}", "1 {2 3}");
        Check.well("list [lsearch {a bc d} b*] [lsearch -exact {a b* bc} b*] [lsearch {a} z] [lsearch -glob {a b} b]", "1 1 -1 1");
        Check.error("lsearch -foo {a} a", "arguments: lsearch");
        Check.well("lsearch -exact {-exact}", "0");
        Check.well("set l {a {b c} d}; list [lset l 1 0 x] [lset l end y] $l [lset l {z}]", "{a {x c} d} {a {x c} y} {a {x c} y} z");
        Check.error("set l {a b}; lset l 2 x", "outside: 2");
        Check.error("set l {a b}; lset l -1 x", "outside: -1");
        Check.error("set l {a b}; lset l 0 1 x", "outside: 1");
        Check.error("set l {a b}; lset l q x", "bad index: q");
        Check.error("lset l 0 x", "no name: l");
        Check.error("lset l", "arguments: lset");
        Check.well("append a x y; append a {}; append a z", "xyz");
        Check.error("append a", "no name: a");
        Check.well("lappend a x {y z}; lappend a {}; set a", "x {y z} {}");
        Check.well("set a { x   y }; list [lappend a] [lappend a z]", "{ x   y } {x y z}");
        Check.error("set a \"{\"; lappend a x", "missing brace");
        Check.error("lappend a", "no name: a");
        Check.error("set a x; incr a", "no number: x");
        Check.error("set a x; incr a y", "no number: x");
        Check.error("incr a y", "no number: y");
        Check.error("set a 9223372036854775807; incr a", "too great");
        Check.well("set a 0x10; incr a -1", "15");
    }

    private static void sorting() {
        Check.well("lsort {b a C c A}", "A C a b c");
        Check.well("lsort -decreasing {b a c}", "c b a");
        Check.well("lsort -integer {10 9 0x8 -1}", "-1 0x8 9 10");
        Check.well("lsort -integer {1 01 0x1 0}", "0 1 01 0x1");
        Check.well("lsort -decreasing -integer {1 01 0x1 0}", "1 01 0x1 0");
        Check.well("lsort -integer -unique {1 01 0x1 0 00}", "00 0x1");
        Check.well("lsort -unique {b a b c a}", "a b c");
        Check.well("lsort -unique -decreasing -integer {3 1 2 3}", "3 2 1");
        Check.error("lsort -integer {1 x y}", "no number: x");
        Check.error("lsort -integer -integer {1}", "arguments: lsort");
        Check.error("lsort -foo {1}", "arguments: lsort");
        Check.error("lsort", "arguments: lsort");
        Check.well("lsort -unique", "-unique");
        Check.well("lsort {}", "");
        Check.well("set l {}; for {set i 0} {$i < 40} {incr i} {lappend l [expr {$i * 37 % 41}]}; lsort -integer $l",
            "0 1 2 3 5 6 7 8 9 10 11 12 13 14 15 16 17 18 19 20 21 22 23 24 25 26 27 28 29 30 31 32 33 34 35 36 37 38 39 40");
    }

    private static void dictionaries() {
        Check.well("dict create a 1 b 2 a 3", "a 3 b 2");
        Check.error("dict create a", "arguments: dict");
        Check.well("dict get {a 1 b {c 2}} b c", "2");
        Check.well("dict get {a 1 a 2} a", "2");
        Check.well("dict get {a 1   b 2 a 3}", "a 3 b 2");
        Check.error("dict get {a 1} b", "no key: b");
        Check.error("dict get {a} b", "no dictionary");
        Check.error("dict get {a b} a c", "no dictionary");
        Check.error("dict get \"{\" a", "missing brace");
        Check.well("list [dict exists {a {b 1}} a b] [dict exists {a {b 1}} a c] [dict exists {a {b 1}} c d]", "1 0 0");
        Check.error("dict exists \"{\" a", "missing brace");
        Check.error("dict exists {a} a", "no dictionary");
        Check.error("dict exists {a b}", "arguments: dict");
        Check.well("list [dict keys {a 1 b 2 a 3}] [dict keys {ab 1 b 2} a*] [dict values {a 1 b 2 a 3}] [dict size {a 1 a 2}]", "{a b} ab {3 2} 1");
        Check.well("dict merge {a 1 b 2} {b 3 c 4} {a 5}", "a 5 b 3 c 4");
        Check.well("dict merge", "");
        Check.error("dict merge {a 1} {b}", "no dictionary");
        Check.error("dict foo", "no such: foo");
    }

    private static void dictionaryChanges() {
        Check.well("dict set d a 1; dict set d b c 2; dict set d b e 3; dict set d a 4", "a 4 b {c 2 e 3}");
        Check.error("set d {a b}; dict set d a c 1", "no dictionary");
        Check.error("dict set d a", "arguments: dict");
        Check.well("set d {a 1 b {c 2 e 3}}; dict unset d b c; dict unset d x; dict unset d a", "b {e 3}");
        Check.error("set d {a 1}; dict unset d b c", "no key: b");
        Check.well("dict unset d a; info exists d", "1");
        Check.well("dict incr d a; dict incr d a 5; dict incr d b -1", "a 6 b -1");
        Check.error("set d {a x}; dict incr d a y", "no number: x");
        Check.error("set d {a 1}; dict incr d a y", "no number: y");
        Check.error("set d {a 9223372036854775807}; dict incr d a", "too great");
        Check.error("set d {a {}}; dict incr d a", "no number: ");
        Check.well("dict lappend d a x {y z}; dict lappend d a w", "a {x {y z} w}");
        Check.well("set d {a { x  y }}; dict lappend d a", "a { x  y }");
        Check.well("dict lappend d k", "k {}");
        Check.error("set d {a \\{}; dict lappend d a x", "missing brace");
        Check.well("set d {a \\{}; dict lappend d a; dict get $d a", "{");
        Check.error("set d(x) 1; dict set d a 1", "is array: d");
        Check.error("dict set n::d a 1", "no room: n");
        Check.error("set d a; dict set d b 1", "no dictionary");
        Check.well("dict set d {} {}; dict set d {a b} #", "{} {} {a b} #");
    }

    private static void strings() {
        Check.well("list [string length abc] [string length {}] [string index abc 1] [string index abc end] [string index abc 5]", "3 0 b c {}");
        Check.well("list [string range abcd 1 2] [string range abcd -1 end] [string range abcd 3 1] [string range abcd 9 9]", "bc abcd {} {}");
        Check.well("list [string first b abcb] [string last b abcb] [string first x a] [string first {} a] [string last {} a] [string first abc ab]",
            "1 3 -1 -1 -1 -1");
        Check.well("list [string compare a b] [string compare b a] [string compare a a] [string compare a aa] [string compare \\xff a]", "-1 1 0 -1 1");
        Check.well("list [string equal a a] [string equal a b] [string match a*c abbc] [string match a abc]", "1 0 1 0");
        Check.well("string map {ab X b Y {} Z} abbac", "XYac");
        Check.error("string map {a} x", "no dictionary");
        Check.well("list [string repeat ab 3] [string repeat a 0] [string repeat a -5] [string repeat {} 9999999999999]", "ababab {} {} {}");
        Check.error("string repeat a x", "no number: x");
        Check.well("list [string reverse abc] [string tolower AbZ\\xc4] [string toupper aBz1]", "cba abz\u00c4 ABZ1");
        Check.well("list [string trim { a b }] [string trimleft xxaxx x] [string trimright xxaxx x] [string trim abcba ab] [string trim { } {}]",
            "{a b} axx xxa c { }");
        Check.well("list [string cat] [string cat a {b c} d]", "{} {ab cd}");
        Check.well("list [string is integer 0x1F] [string is integer {}] [string is integer 1x] [string is boolean off] [string is boolean 7] [string is boolean x]",
            "1 0 0 1 1 0");
        Check.well("list [string is list {a b}] [string is list \\{] [string is alpha aZ] [string is alpha a1] [string is alpha {}]", "1 0 1 0 1");
        Check.well("list [string is digit 12] [string is alnum a1] [string is alnum a_] [string is space \" \\t\\n\"] [string is upper AB] [string is upper aB] [string is lower ab]",
            "1 1 0 1 1 0 1");
        Check.error("string is foo x", "no such: foo");
        Check.error("string foo x", "no such: foo");
        Check.error("string length", "arguments: string");
        Check.error("string", "arguments: string");
    }

    private static void fits(String pattern, String text, int due) {
        Check.well("string match {" + pattern + "} {" + text + "}", "" + due);
    }

    private static void patterns() {
        fits("*", "", 1);
        fits("", "", 1);
        fits("", "a", 0);
        fits("?", "", 0);
        fits("a?c", "abc", 1);
        fits("*b*", "abc", 1);
        fits("*a*b*c", "xxaxbxc", 1);
        fits("*a*b*c", "xxaxbxd", 0);
        fits("[abc]x", "bx", 1);
        fits("[a-c]", "b", 1);
        fits("[c-a]", "b", 1);
        fits("[a-]", "-", 1);
        fits("[-a]", "-", 1);
        fits("[a-c-e]", "-", 1);
        fits("[a-c-e]", "d", 0);
        fits("[]", "a", 0);
        fits("[]a]", "a]", 0);
        fits("[a", "a", 0);
        fits("[a", "[a", 0);
        fits("\\*", "*", 1);
        fits("\\*", "a", 0);
        Check.well("string match {[\\]} \\\\", "1");
        fits("a*[0-9]", "abc7", 1);
        Check.well("string match a\\\\ a\\\\", "1");
        fits("**a**", "bab", 1);
    }

    private static void names() {
        Check.error("list; foo bar", "no command: foo");
        Check.error("llength", "arguments: llength");
        Check.error("llength a b", "arguments: llength");
        Check.error("set", "arguments: set");
        Check.error("set a b c", "arguments: set");
        Check.error("info", "arguments: info");
        Check.error("info foo", "no such: foo");
        Check.well("info commands {[s-u]*}", "set unset upvar trace split string subst switch try uplevel");
        Check.well("namespace eval n {proc a {} {}; list [info commands] [info procs b*]}", "a {}");
    }
}
