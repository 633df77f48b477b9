/**
 * A test or more for each promise of the document: ordinary inputs, the edges
 * that it names, and wrong inputs. What is due was worked out by hand.
 */
public final class Promises {
    private static final int NONE = -1, BAD = -2, NO = -3, FULL = -4, ENDED = -5;
    private static int wrong = 0;
    private static int checks = 0;

    private static void due(String what, long got, long want) {
        checks++;
        if (got != want) {
            wrong++;
            System.out.println(what + " answered " + got + ", due is " + want);
        }
    }

    private static void due(String what, String got, String want) {
        checks++;
        if (!got.equals(want)) {
            wrong++;
            System.out.println(what + " is '" + got + "', due is '" + want + "'");
        }
    }

    private static void tell(SnippetStops x, String text) {
        x.clear();
        for (char c : text.toCharArray()) {
            x.type(c);
        }
    }

    private static int begin(SnippetStops x, String template) {
        tell(x, template);
        return x.begins();
    }

    private static SnippetStops begun(String template) {
        SnippetStops x = new SnippetStops();
        begin(x, template);
        return x;
    }

    private static void keys(SnippetStops x, String bytes) {
        for (char c : bytes.toCharArray()) {
            x.key(c);
        }
    }

    private static String shown(SnippetStops x) {
        StringBuilder b = new StringBuilder();
        for (int i = 0; i < x.count(0); i++) {
            b.append((char) x.at(i));
        }
        return b.toString();
    }

    private static String holds(SnippetStops x, int n) {
        StringBuilder b = new StringBuilder();
        for (int i = 0; x.held(n, i) != NONE; i++) {
            b.append((char) x.held(n, i));
        }
        return b.toString();
    }

    private static String many(String s, int n) {
        return s.repeat(n);
    }

    /** Begins, and shows all of it. */
    private static void shows(String template, String want) {
        due("what " + template + " shows", shown(begun(template)), want);
    }

    private static void fault(String template, int place) {
        SnippetStops x = new SnippetStops();
        due("fault of " + template, begin(x, template), -10 - place);
        due("refused by the fault of " + template, x.told(0) + x.told(1) + x.told(2), 0);
        due("states by the fault of " + template, x.told(4), 0);
        due("bytes by the fault of " + template, x.count(0), 0);
        due("text by the fault of " + template, x.told(3), template.length());
    }

    // ---- told

    private static void promise1() {
        SnippetStops x = new SnippetStops();
        for (int what = 0; what < 5; what++) {
            due("1 told " + what, x.told(what), 0);
        }
        int[] counts = {0, 0, 0, NONE, 0, 0};
        for (int what = 0; what < 6; what++) {
            due("1 count " + what, x.count(what), counts[what]);
        }
        due("1 at", x.at(0), NONE);
        for (int v = 0; v < 4; v++) {
            due("1 variableAt " + v, x.variableAt(v, 0), NONE);
        }
        due("1 back", x.back(), NO);
        due("1 constants", "" + SnippetStops.NONE + SnippetStops.BAD + SnippetStops.NO + SnippetStops.FULL
            + SnippetStops.ENDED, "-1-2-3-4-5");
    }

    private static void promise2() {
        SnippetStops x = new SnippetStops();
        due("2 least", x.type(0), 1);
        due("2 greatest", x.type(127), 2);
        due("2 below", x.type(-1), BAD);
        due("2 above", x.type(128), BAD);
        due("2 told bad", x.told(0), 2);
        for (int i = 3; i <= 120; i++) {
            due("2 type", x.type('a'), i);
        }
        due("2 the 121st", x.type('a'), FULL);
        due("2 bad ahead of full", x.type(300), BAD);
        due("2 told full", x.told(2), 1);
        due("2 bytes", x.told(3), 120);
        due("2 no state", x.told(4), 0);
    }

    private static void promise3() {
        SnippetStops x = new SnippetStops();
        due("3 empty", x.clear(), 0);
        tell(x, "abc");
        due("3 three", x.clear(), 3);
        due("3 none left", x.told(3), 0);
        due("3 no state", x.told(4), 0);
        due("3 on", x.type('a'), 1);
    }

    private static void promise4() {
        SnippetStops x = new SnippetStops();
        tell(x, "abcdefghijkl");
        due("4 twelve", x.variable(3), 12);
        due("4 text stays", x.told(3), 12);
        due("4 a state", x.told(4), 1);
        due("4 last byte", x.variableAt(3, 11), 'l');
        due("4 above", x.variable(4), BAD);
        due("4 below", x.variable(-1), BAD);
        x.type('m');
        due("4 thirteen", x.variable(0), BAD);
        tell(x, " ~");
        due("4 edges of bytes", x.variable(0), 2);
        x.type(31);
        due("4 byte 31", x.variable(0), BAD);
        x.clear();
        x.type(127);
        due("4 byte 127", x.variable(0), BAD);
        due("4 unchanged", x.variableAt(0, 1), '~');
        due("4 states", x.told(4), 2);
        x.clear();
        due("4 nothing", x.variable(3), 0);
        due("4 nothing in it", x.variableAt(3, 0), NONE);
        due("4 back", x.back(), 2);
        due("4 what it was", x.variableAt(3, 0), 'a');
    }

    private static void promise5() {
        SnippetStops x = new SnippetStops();
        keys(x, "<>");
        x.caret(1);
        due("5 at the caret", begin(x, "a${3:b}c$2"), 2);
        due("5 shown", shown(x), "<abc>");
        due("5 fresh", x.count(4), 1);
        due("5 text stays", x.told(3), 10);
        due("5 upon it", begin(x, "[${1:x}]"), 1);
        due("5 in the place", shown(x), "<abc[x]>");
        due("5 third", begin(x, "$1"), 1);
        due("5 fourth", begin(x, "$1"), NO);
        due("5 fault ahead of no", begin(x, "$"), -11);
        due("5 ending at once is a fourth, too", begin(x, "a"), NO);
        due("5 refused", x.told(1), 2);
        due("5 states", x.told(4), 6);

        x = new SnippetStops();
        due("5 nothing", x.begins(), ENDED);
        due("5 ended", begin(x, "ab$0cd"), ENDED);
        due("5 caret at stop 0", x.count(1), 2);
        due("5 ended in the midst", begin(x, "-"), ENDED);
        due("5 caret behind", x.count(1), 3);
        due("5 bytes", shown(x), "ab-cd");
        due("5 states of the ended", x.told(4), 3);
        begin(x, "${1:q}");
        due("5 ended within a session", begin(x, "${0:rs}"), ENDED);
        due("5 the stop below", holds(x, 1), "rs");
        due("5 is set", x.stop(1, 1), 1);
        due("5 is not fresh", x.count(4), 0);
        due("5 goes on", x.count(3), 1);
        due("5 bytes within", shown(x), "ab-rscd");

        x = new SnippetStops();
        begin(x, many("a", 120));
        due("5 240", x.begins(), ENDED);
        due("5 240 bytes", x.count(0), 240);
        due("5 241", begin(x, "b"), FULL);
        due("5 told full", x.told(2), 1);
        due("5 nothing changed", x.told(4), 2);
        due("5 no byte fits", begin(x, "$1$1"), 1);
        due("5 upon, twice a byte", begin(x, "b"), FULL);
        due("5 still fresh", x.count(4), 1);

        x = begun("$1");
        tell(x, many("a", 12));
        x.variable(0);
        due("5 240 by the upper one", begin(x, "$1" + many("$A", 20)), 1);
        due("5 as many bytes", x.count(0), 240);
        x.back();
        due("5 241 by the upper one", begin(x, "$1b" + many("$A", 20)), FULL);
        due("5 720 by the upper one", begin(x, many("$A", 58) + "$1$1"), FULL);
        due("5 nothing by them", x.count(0), 0);

        // the places of an ended session are used again
        x = begun("${1:a${2:b}}$2");
        keys(x, "xyz");
        x.ends();
        begin(x, "${1:c${2:de}}$2");
        due("5 a new one has nothing SET", x.stop(1, 1) + x.stop(2, 1), 0);
        x.key('q');
        due("5 nor kept of the old one", shown(x), "xyzbqde");
    }

    private static void templates() {
        shows("}a\\$\\\\\\}\\a", "}a$\\}a");
        shows("${1:a\\}b}}", "a}b}");
        shows("${1|a}b,c|}", "a}b");
        shows("${1|\\,\\|\\$\\\\\\x,|}", ",|$\\x");
        shows("${1:${2|}|}}", "}");
        shows("${1:aZ9z}${1/u}${1/l}${1/c}${1/b}${1/zy}", "aZ9zAZ9Zaz9zAZ9zz9ZaaZ9y");
        shows("${1/u}${1:u}${1/ul}${1/$,}", "Uulu");
        shows("${1:`az{@AZ[}${1/u}", "`az{@AZ[`AZ{@AZ[");
        shows("${1:`az{@AZ[}${1/l}", "`az{@AZ[`az{@az[");
        shows("${1:aa}${1/c}${2/c}", "aaAa");
        // ten stops by way of one another
        shows("${1:${2:${3:${4:$5}}}}${5:${6:${7:${8:$9}}}}${9:$0}${0:x}", "xxxx");
        shows("$1${1:a${2:b}}$2", "ababb");
        // the first with a default or choices, wherever a plain one stands
        shows("$1-${1/u}-${1|x,y|}-${1:z}", "x-X-x-x");
        // within the default of one that is no master: not there
        shows("${1:a}${1:${2:b}}$2.", "aa.");
        shows("${1:${1:x}y}", "y");
        shows("${1:a$2}${2:b$1}", "abba");
        shows("${1:x${2:y$1}}$2", "xyyx");
        shows("${2/u}", "");

        SnippetStops x = begun("${1/u}$1$1");
        due("no master by a rule", x.occurrence(1, 0, 3), 0);
        due("the first without one", x.occurrence(1, 1, 3), 1);
        due("but not the second", x.occurrence(1, 2, 3), 0);

        x = begun("${1:a}${1:${2:b}}$3");
        due("not there", x.stop(2, 0), 0);
        due("holds nothing", x.stop(2, 2), 0);
        due("no occurrence", x.stop(2, 3), 0);
        due("next over it", x.nexts(), 3);

        x = begun("${1:x${2:y$1}}");
        due("held by itself", holds(x, 2), "yx");
        due("shown within", x.occurrence(2, 0, 1), 1);
        x.key('q');
        due("kept as it was held", holds(x, 2), "yx");
        due("and not there", x.stop(2, 0), 0);
        due("shown of it", shown(x), "q");

        x = new SnippetStops();
        tell(x, "v$1}");
        x.variable(1);
        due("a variable shows its bytes", begin(x, "${1:$B}$A$B"), 1);
        due("none of them told", shown(x), "v$1}v$1}");
        tell(x, "new");
        x.variable(1);
        due("as it was at the begin", shown(x), "v$1}v$1}");
    }

    private static void faults() {
        fault("$", 1);
        fault("\\", 1);
        fault("a\\\u001f", 2);
        fault("a\u007f", 1);
        fault("a\u001fb", 1);
        fault("$E", 1);
        fault("$a", 1);
        fault("${", 2);
        fault("${x", 2);
        fault("${1", 3);
        fault("${1:$$}", 5);
        fault("a${1:b}${2}", 10);
        fault("${1}", 3);
        fault("${1:", 4);
        fault("${1:a", 5);
        fault("${1:a\\}", 7);
        fault("${1|", 4);
        fault("${1|a,b}", 8);
        fault("${1|a|", 6);
        fault("${1|a|b|}", 6);
        fault("${1|$|}", 4);
        fault("${1|\\", 5);
        fault("${1|\n|}", 4);
        fault("${1/", 4);
        fault("${1/}", 4);
        fault("${1/}}", 4);
        fault("${1/\\a}", 4);
        fault("${1/x}", 5);
        fault("${1/u", 5);
        fault("${1/x\\}", 5);
        fault("${1/xy", 6);
        fault("${1/xyz}", 6);
        fault("${1/ux", 6);
        fault("${1|" + many(",", 9) + "|}", 12);
        shows("${1|z" + many(",", 8) + "|}", "z");
        fault(many("$1", 17), 32);
        fault(many("$1", 16) + "a${2:b}", 33);
        fault(many("$1", 16) + "$", 33);
        fault(many("$1", 16) + "$z", 33);
        shows(many("$1", 16) + "$Az", "z");
        // also those that are not there
        fault("${1:}${1:" + many("$2", 14) + "}$3", 38);
        fault("${1:${2:${3:${4:${5:a}}}}}", 19);
        shows("${1:${2:${3:${4:a$5${6|b|}}}}}", "ab");
        shows("${1:${2:${3:${4:a}}}}${5:${6:${7:${8:b}}}}", "ab");
    }

    // ---- keys

    private static void promise6() {
        SnippetStops x = new SnippetStops();
        due("6 plain", x.key('b'), 1);
        x.caret(0);
        due("6 ahead of the caret's", x.key(' '), 2);
        due("6 caret behind it", x.count(1), 1);
        due("6 greatest", x.key('~'), 3);
        due("6 bytes", shown(x), " ~b");
        due("6 below", x.key(31), BAD);
        due("6 above", x.key(127), BAD);
        due("6 states", x.told(4), 4);

        x = begun("${1:ab}.${1/u}");
        due("6 fresh", x.key('x'), 3);
        due("6 alone", shown(x), "x.X");
        due("6 behind", x.key('y'), 5);
        due("6 both", shown(x), "xy.XY");
        due("6 not fresh", x.count(4), 0);
        due("6 set", x.stop(1, 1), 1);

        x = new SnippetStops();
        begin(x, many("a", 119));
        x.begins();
        x.key('a');
        due("6 240", x.key('a'), 240);
        due("6 241", x.key('a'), FULL);
        due("6 bad ahead of full", x.key(0), BAD);
        x.cuts(0, 1);
        begin(x, "$1$1");
        due("6 two of one key", x.key('a'), FULL);
        due("6 still fresh", x.count(4), 1);
        due("6 not set", x.stop(1, 1), 0);
    }

    private static void swallowed() {
        SnippetStops x = begun("${1:a${2:b${3:c}}$4${0:e}}${3/u}$4$2");
        due("ahead", shown(x), "abceCbc");
        x.key('x');
        due("behind", shown(x), "xCbc");
        for (int n : new int[] {0, 2, 3, 4}) {
            due("set " + n, x.stop(n, 1), 1);
        }
        due("0 is not there", x.stop(0, 0), 0);
        due("0 holds", holds(x, 0), "e");
        due("3 holds", holds(x, 3), "c");
        due("3 shows by its rule", x.occurrence(3, 0, 2), 1);
        due("2 is not master there", x.occurrence(2, 0, 3), 0);
        due("there", x.count(5), 4);
        due("unlike ones", x.unlike(), 4);
        due("at 2", x.nexts(), 2);
        x.key('y');
        due("2 alone", shown(x), "xCy");
        due("set stays", holds(x, 3), "c");

        x = begun("${1:a${2:b$3}}${3:c}$2");
        x.nexts();
        x.nexts();
        x.key('d');
        due("3 by way of 2", shown(x), "abddbd");
        x.prevs();
        x.prevs();
        x.key('x');
        due("2 is kept", shown(x), "xdbd");
        x.nexts();
        x.nexts();
        x.key('e');
        due("2 is no more made up", shown(x), "xebd");
    }

    private static void promise7() {
        SnippetStops x = new SnippetStops();
        due("7 nothing", x.rubs(), NO);
        keys(x, "abc");
        x.caret(2);
        due("7 plain", x.rubs(), 2);
        due("7 bytes", shown(x), "ac");
        due("7 caret", x.count(1), 1);
        x.caret(0);
        due("7 at the begin", x.rubs(), NO);

        x = begun("${1:ab}$1.");
        due("7 fresh", x.rubs(), 1);
        due("7 not fresh", x.count(4), 0);
        due("7 set", x.stop(1, 1), 1);
        due("7 holds none", x.rubs(), NO);
        keys(x, "xyz");
        due("7 the last", x.rubs(), 5);
        due("7 bytes in a session", shown(x), "xyxy.");
        due("7 fresh and none", begun("$1").rubs(), NO);

        // 2 shows nothing within 3 until it is SET to what it HELD
        x = begun("${3:" + many("a", 90) + "${1:x${2:$3}}$2}");
        due("7 shown", x.count(0), 91);
        due("7 held by 2", x.stop(2, 2), 91);
        due("7 more bytes by it", x.rubs(), 181);
        x = begun("${4:" + many("a", 60) + "${1:x${2:$4}}$2$2$2}");
        due("7 too many by it", x.rubs(), FULL);
        due("7 still fresh", x.count(4), 1);
        due("7 still shown", x.count(0), 61);
        due("7 told full", x.told(2), 1);
    }

    private static void promise8() {
        SnippetStops x = new SnippetStops();
        due("8 no session", x.nexts(), NO);
        begin(x, "$9$3${0:z}$3${5:a$4}");
        due("8 the least at first", x.count(3), 3);
        x.key('x');
        due("8 the next", x.nexts(), 4);
        due("8 fresh", x.count(4), 1);
        due("8 over a gap", x.nexts(), 5);
        due("8 the last", x.nexts(), 9);
        due("8 no more", x.nexts(), ENDED);
        due("8 none open", x.count(2), 0);
        due("8 caret at stop 0", x.count(1), 1);
        due("8 bytes", shown(x), "xzxa");
        due("8 refused then", x.nexts(), NO);
        due("8 states", x.told(4), 6);
        due("8 back", x.back(), 5);
        due("8 at the last", x.count(3), 9);

        x = begun("${1:a}${2:b}");
        begin(x, "${1:c}");
        due("8 the upper one ends", x.nexts(), ENDED);
        due("8 the lower one stays", x.count(3), 1);
        due("8 not fresh", x.count(4), 0);
        due("8 one left", x.count(2), 1);
    }

    private static void promise9() {
        SnippetStops x = new SnippetStops();
        due("9 no session", x.prevs(), NO);
        begin(x, "$2$7$4$0");
        due("9 none ahead, 0 is none", x.prevs(), NO);
        x.nexts();
        x.nexts();
        x.key('a');
        due("9 the one ahead", x.prevs(), 4);
        due("9 fresh", x.count(4), 1);
        due("9 the first", x.prevs(), 2);
        due("9 states", x.told(4), 6);
        due("9 no more", x.prevs(), NO);
        due("9 refused", x.told(1), 3);
    }

    private static void promise10() {
        SnippetStops x = new SnippetStops();
        due("10 bad ahead of no", x.picks(-1), BAD);
        due("10 no session", x.picks(0), NO);
        begin(x, "${1|ab,,c|}$1");
        due("10 the third", x.picks(2), 2);
        due("10 fresh", x.count(4), 1);
        due("10 set", x.stop(1, 1), 1);
        due("10 the empty one", x.picks(1), 0);
        due("10 the first", x.picks(0), 4);
        due("10 bytes", shown(x), "abab");
        due("10 not so many", x.picks(3), NO);
        x.key('q');
        due("10 alone, as it is fresh", shown(x), "qq");
        due("10 not fresh", x.count(4), 0);
        due("10 again", x.picks(2), 2);
        due("10 fresh again", x.count(4), 1);
        due("10 no choices", begun("${1:a}").picks(0), NO);

        x = begun("${1:${2|p,q|}}$2");
        x.nexts();
        due("10 there", x.picks(1), 2);
        x.prevs();
        x.key('x');
        x.nexts();
        due("10 the master is there no more", x.picks(0), NO);
        due("10 what it holds", holds(x, 2), "q");

        x = begun("${1|," + many("a", 20) + "|}" + many("$1", 12));
        due("10 too many", x.picks(1), FULL);
        due("10 nothing changed", x.stop(1, 1), 0);
    }

    private static void promise11() {
        SnippetStops x = new SnippetStops();
        due("11 none", x.ends(), NO);
        keys(x, "()");
        x.caret(1);
        begin(x, "a${1:b}c");
        begin(x, "[${2:d}$0]");
        begin(x, "e$1");
        due("11 the third", x.ends(), 2);
        due("11 holds", holds(x, 2), "e");
        due("11 not fresh", x.count(4), 0);
        due("11 goes on", x.key('f'), 8);
        due("11 the second", x.ends(), 1);
        due("11 holds all", holds(x, 1), "[ef]");
        due("11 the first", x.ends(), 0);
        due("11 bytes", shown(x), "(a[ef]c)");
        due("11 caret behind all that it showed", x.count(1), 7);
        due("11 no more", x.ends(), NO);

        x = begun("${1:a$0b}c${0:d}");
        x.ends();
        due("11 the first of stop 0", x.count(1), 1);
        x = begun("${1:a${0:b}}c$0");
        x.key('x');
        x.ends();
        due("11 the first of stop 0 that is there", x.count(1), 2);
        x = begun("x${1:y$0}");
        x.key('z');
        x.ends();
        due("11 stop 0 is there no more", x.count(1), 2);
    }

    private static void promise12() {
        SnippetStops x = new SnippetStops();
        keys(x, "abc");
        due("12 where it stood", x.caret(0), 3);
        due("12 behind all", x.caret(3), 0);
        due("12 above", x.caret(4), BAD);
        due("12 below", x.caret(-1), BAD);
        due("12 the same place", x.caret(3), 3);
        due("12 states", x.told(4), 6);
        x.caret(1);
        begin(x, "${1:xy}");
        due("12 in a session", x.caret(0), NO);
        due("12 as many as are shown", x.caret(5), NO);
        due("12 bad ahead of no", x.caret(6), BAD);
    }

    private static void promise13() {
        SnippetStops x = new SnippetStops();
        keys(x, "abcdef");
        x.caret(3);
        due("13 across the caret", x.cuts(2, 2), 4);
        due("13 one nearer", x.count(1), 2);
        due("13 bytes", shown(x), "abef");
        due("13 behind the caret", x.cuts(2, 1), 3);
        due("13 not nearer", x.count(1), 2);
        due("13 ahead of the caret", x.cuts(0, 1), 2);
        due("13 nearer", x.count(1), 1);
        due("13 left", shown(x), "bf");
        due("13 none", x.cuts(0, 0), BAD);
        due("13 less than none", x.cuts(0, -1), BAD);
        due("13 ahead of all", x.cuts(-1, 1), BAD);
        due("13 too many", x.cuts(1, 2), BAD);
        due("13 behind all", x.cuts(2, 1), BAD);
        due("13 far too many", x.cuts(1, Integer.MAX_VALUE), BAD);
        due("13 far behind", x.cuts(Integer.MAX_VALUE, 1), BAD);
        due("13 told bad", x.told(0), 7);
        due("13 all", x.cuts(0, 2), 0);
        begin(x, "${1:xy}");
        due("13 in a session", x.cuts(0, 2), NO);
        due("13 bad ahead of no", x.cuts(0, 3), BAD);
    }

    // ---- shown

    private static void promise14() {
        SnippetStops x = new SnippetStops();
        keys(x, "az");
        due("14 the last", x.at(1), 'z');
        due("14 not so many", x.at(2), NONE);
        due("14 not nearly", x.at(Integer.MAX_VALUE), NONE);
        due("14 below", x.at(-1), BAD);
        due("14 told", x.told(0), 1);
        x.caret(1);
        begin(x, "(${1:b})");
        due("14 in a session", shown(x), "a(b)z");
    }

    private static void promise15() {
        SnippetStops x = begun("a${4:b$2}$0");
        int[] want = {2, NONE, 1, 2, 1, 3};
        for (int what = 0; what < 6; what++) {
            due("15 count " + what, x.count(what), want[what]);
        }
        due("15 below", x.count(-1), BAD);
        due("15 above", x.count(6), BAD);
        due("15 told", x.told(0), 2);
        x.nexts();
        x.key('c');
        due("15 the stop", x.count(3), 4);
        due("15 not fresh", x.count(4), 0);
        due("15 2 is there no more", x.count(5), 2);
        begin(x, "$1");
        due("15 sessions", x.count(2), 2);
        due("15 of the uppermost one", x.count(5), 1);
    }

    private static void promise16() {
        SnippetStops x = new SnippetStops();
        due("16 no session", x.stop(0, 0), NO);
        due("16 bad ahead of no", x.stop(10, 0), BAD);
        begin(x, "${1:a${2|b,c|}}$2${2/u}");
        int[][] want = {{0, 0, 0, 0, 0}, {1, 0, 2, 1, 0}, {1, 0, 1, 3, 2}};
        for (int n = 0; n < 3; n++) {
            for (int what = 0; what < 5; what++) {
                due("16 stop " + n + " " + what, x.stop(n, what), want[n][what]);
            }
        }
        x.key('x');
        int[] after = {1, 1, 1, 2, 0};
        for (int what = 0; what < 5; what++) {
            due("16 stop 2 then " + what, x.stop(2, what), after[what]);
        }
        due("16 n below", x.stop(-1, 0), BAD);
        due("16 what below", x.stop(0, -1), BAD);
        due("16 what above", x.stop(0, 5), BAD);
        due("16 told", x.told(0), 4);
    }

    private static void promise17() {
        SnippetStops x = new SnippetStops();
        due("17 no session", x.held(0, 0), NO);
        due("17 bad ahead of no", x.held(0, -1), BAD);
        begin(x, "${1:ab}${1/u}$3");
        due("17 not by the rule", x.held(1, 1), 'b');
        due("17 not so many", x.held(1, 2), NONE);
        due("17 nothing", x.held(3, 0), NONE);
        due("17 not there", x.held(9, 0), NONE);
        due("17 n below", x.held(-1, 0), BAD);
        due("17 n above", x.held(10, 0), BAD);

        // more than THE DOCUMENT has: 1 is 60, 2 holds it 4 times, 3 holds that 4 times
        x = begun("${1:" + many("a", 60) + "${2:$1$1$1$1}${3:$2$2$2$2}}");
        due("17 shown", x.count(0), 60);
        due("17 held by 2", x.stop(2, 2), 240);
        due("17 held by 3", x.stop(3, 2), 960);
        due("17 its last", x.held(3, 959), 'a');
        due("17 behind it", x.held(3, 960), NONE);
        x.key('b');
        due("17 kept", x.stop(3, 2), 960);
        due("17 its last, kept", x.held(3, 959), 'a');
    }

    private static void promise18() {
        SnippetStops x = new SnippetStops();
        due("18 no session", x.choice(1, 0, 0), NO);
        due("18 bad ahead of no", x.choice(1, -1, 0), BAD);
        begin(x, "$1${2:${1|ab,,c|}}${1|z|}");
        due("18 first", x.choice(1, 0, 1), 'b');
        due("18 behind it", x.choice(1, 0, 2), NONE);
        due("18 empty", x.choice(1, 1, 0), NONE);
        due("18 last", x.choice(1, 2, 0), 'c');
        due("18 not so many", x.choice(1, 3, 0), NONE);
        due("18 none", x.choice(2, 0, 0), NONE);
        due("18 no stop", x.choice(3, 0, 0), NONE);
        due("18 n", x.choice(10, 0, 0), BAD);
        due("18 n below", x.choice(-1, 0, 0), BAD);
        due("18 i", x.choice(1, 0, -1), BAD);
        x.nexts();
        x.key('q');
        due("18 the master is there no more", x.choice(1, 0, 0), NONE);
    }

    private static void promise19() {
        SnippetStops x = new SnippetStops();
        due("19 no session", x.occurrence(1, 0, 0), NO);
        due("19 bad ahead of no", x.occurrence(1, 0, 4), BAD);
        keys(x, "<");
        begin(x, "${1/u}$1${2:a${1:b}}$2${1/l}${1/c}${1/b}${1/bz}");
        due("19 shown", shown(x), "<Bbababb" + "Bbz");
        int[] begins = {1, 2, 4, 7, 8, 9, 10};
        int[] rules = {1, 0, 0, 2, 3, 4, 5};
        for (int j = 0; j < 7; j++) {
            due("19 begin " + j, x.occurrence(1, j, 0), begins[j]);
            due("19 bytes " + j, x.occurrence(1, j, 1), 1);
            due("19 rule " + j, x.occurrence(1, j, 2), rules[j]);
            due("19 master " + j, x.occurrence(1, j, 3), j == 2 ? 1 : 0);
        }
        due("19 not so many", x.occurrence(1, 7, 0), NONE);
        due("19 j", x.occurrence(1, -1, 0), BAD);
        due("19 n", x.occurrence(10, 0, 0), BAD);
        due("19 n below", x.occurrence(-1, 0, 0), BAD);
        due("19 what", x.occurrence(1, 0, -1), BAD);

        x = begun("$1-${1:a}");
        begin(x, ".${2:b}");
        due("19 upon it, by the master", x.occurrence(2, 0, 0), 4);
        begin(x, "$0$3");
        due("19 upon that", x.occurrence(3, 0, 0), 3);

        x = begun("${1:${2:a}}-${2/b}$2");
        x.key('x');
        x.nexts();
        begin(x, ".${3:b}");
        due("19 shown upon it", shown(x), "x-b..b");
        due("19 upon it, by the first", x.occurrence(3, 0, 0), 3);
    }

    private static void promise20() {
        SnippetStops x = new SnippetStops();
        due("20 no session", x.unlike(), 0);
        due("20 is no refusal", x.told(1), 0);
        begin(x, "$1$1$2${1/u}");
        due("20 all at one place", x.unlike(), 2);
        x.key('a');
        due("20 three places", x.unlike(), 4);
        // 2 begins where 1 does; the inner 1 shows nothing at that place
        x = begun("${1:${2:a}$1}");
        due("20 nested", x.unlike(), 3);
        x.key('b');
        due("20 the inner ones go", x.unlike(), 1);
    }

    private static void promise21() {
        SnippetStops x = new SnippetStops();
        tell(x, "xy");
        x.variable(2);
        due("21 byte", x.variableAt(2, 1), 'y');
        due("21 behind", x.variableAt(2, 2), NONE);
        due("21 other", x.variableAt(3, 0), NONE);
        due("21 v below", x.variableAt(-1, 0), BAD);
        due("21 v above", x.variableAt(4, 0), BAD);
        due("21 i", x.variableAt(0, -1), BAD);
        due("21 told", x.told(0), 3);
    }

    // ---- what was

    private static void promise22() {
        SnippetStops x = new SnippetStops();
        due("22 none", x.back(), NO);
        keys(x, "abcdefghij");
        due("22 eight at most", x.told(4), 8);
        for (int left = 7; left >= 0; left--) {
            due("22 back", x.back(), left);
        }
        due("22 no more", x.back(), NO);
        due("22 what is left", shown(x), "ab");
        due("22 refused stay", x.told(1), 2);

        x = begun("${1:a${2:b}}$2");
        x.key('c');
        begin(x, "<$1>");
        x.key('d');
        x.ends();
        x.ends();
        due("22 at the end", shown(x), "<d>b");
        x.back();
        due("22 the session again", x.count(2), 1);
        due("22 not fresh", x.count(4), 0);
        x.back();
        due("22 both", x.count(2), 2);
        due("22 what it holds", holds(x, 1), "d");
        x.back();
        due("22 fresh again", x.count(4), 1);
        due("22 bytes", shown(x), "<>b");
        x.back();
        due("22 the lower one", holds(x, 1), "c");
        due("22 states", x.back(), 1);
        due("22 not set again", x.stop(2, 1), 0);
        due("22 as begun", shown(x), "abb");
        due("22 text stays", x.told(3), 4);
        x.back();
        due("22 before all", x.count(0) + x.count(2), 0);

        x = new SnippetStops();
        keys(x, "abc");
        x.back();
        x.back();
        keys(x, "de");
        x.back();
        due("22 another way", shown(x), "ad");
        keys(x, "f");
        due("22 and another", shown(x), "adf");
        x.back();
        x.back();
        due("22 back on it", shown(x), "a");

        x = new SnippetStops();
        keys(x, "abc");
        x.caret(1);
        x.key(0);
        x.at(-1);
        x.ends();
        x.nexts();
        due("22 refused calls leave none", x.told(4), 4);
        x.back();
        due("22 the caret", x.count(1), 3);
    }

    private static void promise23() {
        SnippetStops x = new SnippetStops();
        due("23 below", x.told(-1), BAD);
        due("23 above", x.told(5), BAD);
        due("23 bad", x.told(0), 2);
        x.nexts();
        due("23 no", x.told(1), 1);
        tell(x, many("a", 121));
        due("23 full", x.told(2), 1);
        due("23 bytes", x.told(3), 120);
        x.key('a');
        due("23 states", x.told(4), 1);
    }

    private static long folded(int... values) {
        long h = 1870;
        for (int v : values) {
            h = 31 * h + v;
        }
        return h;
    }

    private static void promise24() {
        SnippetStops x = new SnippetStops();
        due("24 new", x.digest(), folded(0, 0, 0, 0, 0, 0, 0, 0, NONE, 0, 0));
        x.key('a');
        x.rubs();
        x.rubs();
        x.key(0);
        x.key('b');
        x.type('c');
        due("24 plain", x.digest(), folded(1, 1, 0, 1, 3, 1, 1, 0, NONE, 0, 0, 'b'));
        begin(x, "${1|q,r|}$1$9");
        int[] want = new int[11 + 3 + 50];
        int[] head = {1, 1, 0, 13, 4, 3, NONE, 1, 1, 1, 2, 'b', 'q', 'q'};
        System.arraycopy(head, 0, want, 0, 14);
        int[] one = {1, 0, 1, 2, 2};
        System.arraycopy(one, 0, want, 14 + 5, 5);
        int[] nine = {1, 0, 0, 1, 0};
        System.arraycopy(nine, 0, want, 14 + 45, 5);
        due("24 in a session", x.digest(), folded(want));
        due("24 changes nothing", x.digest(), folded(want));
    }

    /** README.md has these calls with these answers. */
    private static void readme() {
        SnippetStops x = new SnippetStops();
        tell(x, "for ${1:i}: ${1/u}$0;");
        due("readme: told(3)", x.told(3), 21);
        due("readme: begins", x.begins(), 1);
        due("readme: shown", shown(x), "for i: I;");
        due("readme: key k", x.key('k'), 9);
        due("readme: shown", shown(x), "for k: K;");
        due("readme: key m", x.key('m'), 11);
        due("readme: nexts", x.nexts(), ENDED);
        due("readme: caret", x.count(1), 10);
        due("readme: shown", shown(x), "for km: KM;");
        due("readme: back", x.back(), 3);
        due("readme: sessions", x.count(2), 1);
        due("readme: back", x.back(), 2);
        due("readme: shown", shown(x), "for k: K;");
    }

    public static void main(String[] args) {
        readme();
        promise1();
        promise2();
        promise3();
        promise4();
        promise5();
        templates();
        faults();
        promise6();
        swallowed();
        promise7();
        promise8();
        promise9();
        promise10();
        promise11();
        promise12();
        promise13();
        promise14();
        promise15();
        promise16();
        promise17();
        promise18();
        promise19();
        promise20();
        promise21();
        promise22();
        promise23();
        promise24();
        System.out.println(checks + " checks, " + wrong + " not as due");
        if (wrong != 0) {
            System.exit(1);
        }
    }
}
