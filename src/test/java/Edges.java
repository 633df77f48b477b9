import java.util.ArrayList;
import java.util.Arrays;
import java.util.List;

/**
 * Each sentence of the document that names an edge, with a test of its own: the
 * last that is taken and the first that is not. A refused call is made on one of
 * two objects with the same past, and nothing but how often may tell them apart,
 * now, further back, or when the sessions have ended. No object is asked more
 * often than the document promises answers for.
 */
public final class Edges {
    private static final int NONE = -1, BAD = -2, NO = -3, FULL = -4, ENDED = -5;
    private static final int LEAST = Integer.MIN_VALUE, MOST = Integer.MAX_VALUE;
    private static final int MOST_CALLS = 512;
    private static int wrong = 0;
    private static int checks = 0;
    private static String sentence = "";

    private static void say(String what) {
        wrong++;
        System.out.println(sentence + ": " + what);
    }

    private static void same(String what, Object got, Object want) {
        checks++;
        if (!got.equals(want)) {
            say(what + " is " + got + ", due is " + want);
        }
    }

    /** An object and the calls that it was asked, so that they can be asked again. */
    private static final class Desk {
        private SnippetStops x = new SnippetStops();
        private final List<String> past = new ArrayList<>();
        private int calls = 0;

        /** Calls told as "key 97"; "text:ab", "begin:ab" and "keys:ab" stand for several. */
        long ask(String call) {
            past.add(call);
            int colon = call.indexOf(':');
            if (colon > 0) {
                return askMany(call.substring(0, colon), call.substring(colon + 1));
            }
            calls++;
            if (calls > MOST_CALLS) {
                say("a test asks too often: " + call);
            }
            String[] words = call.split(" ");
            int[] n = new int[3];
            for (int i = 1; i < words.length; i++) {
                n[i - 1] = Integer.parseInt(words[i]);
            }
            return words[0].compareTo("digest") < 0 ? early(words[0], n) : late(words[0], n);
        }

        private long early(String name, int[] n) {
            switch (name) {
                case "at":
                    return x.at(n[0]);
                case "back":
                    return x.back();
                case "begins":
                    return x.begins();
                case "caret":
                    return x.caret(n[0]);
                case "choice":
                    return x.choice(n[0], n[1], n[2]);
                case "clear":
                    return x.clear();
                case "count":
                    return x.count(n[0]);
                case "cuts":
                    return x.cuts(n[0], n[1]);
                default:
                    throw new IllegalArgumentException(name);
            }
        }

        private long late(String name, int[] n) {
            switch (name) {
                case "digest":
                    return x.digest();
                case "ends":
                    return x.ends();
                case "held":
                    return x.held(n[0], n[1]);
                case "key":
                    return x.key(n[0]);
                case "nexts":
                    return x.nexts();
                case "occurrence":
                    return x.occurrence(n[0], n[1], n[2]);
                case "picks":
                    return x.picks(n[0]);
                case "prevs":
                    return x.prevs();
                case "rubs":
                    return x.rubs();
                case "stop":
                    return x.stop(n[0], n[1]);
                case "told":
                    return x.told(n[0]);
                case "type":
                    return x.type(n[0]);
                case "unlike":
                    return x.unlike();
                case "variable":
                    return x.variable(n[0]);
                case "variableAt":
                    return x.variableAt(n[0], n[1]);
                default:
                    throw new IllegalArgumentException(name);
            }
        }

        private long askMany(String kind, String bytes) {
            int kept = past.size();
            long answer = kind.equals("keys") ? 0 : ask("clear");
            for (char c : bytes.toCharArray()) {
                answer = ask((kind.equals("keys") ? "key " : "type ") + (int) c);
            }
            if (kind.equals("begin")) {
                answer = ask("begins");
            }
            while (past.size() > kept) {
                past.remove(past.size() - 1);
            }
            return answer;
        }

        Desk go(String... more) {
            for (String call : more) {
                ask(call);
            }
            return this;
        }

        /** Another object with the same past. */
        Desk again() {
            return new Desk().go(past.toArray(new String[0]));
        }

        /** What a call answers, without it being this object's past. */
        long sees(String call) {
            return again().ask(call);
        }

        Desk due(String call, long want) {
            same(past + " then " + call, ask(call), want);
            return this;
        }

        /** Looked at on another object, so that there are calls enough. */
        Desk shows(String want) {
            same(past + " shows", again().bytes(), want);
            return this;
        }

        Desk holds(int n, String want) {
            Desk other = again();
            StringBuilder b = new StringBuilder();
            for (long c = other.ask("held " + n + " 0"); c >= 0; c = other.ask("held " + n + " " + b.length())) {
                b.append((char) c);
            }
            same(past + " holds in " + n, b.toString(), want);
            return this;
        }

        Desk counts(int what, long want) {
            same(past + " has count " + what, sees("count " + what), want);
            return this;
        }

        Desk tells(int what, long want) {
            same(past + " has told " + what, sees("told " + what), want);
            return this;
        }

        private String bytes() {
            StringBuilder b = new StringBuilder();
            long size = ask("count 0");
            for (int i = 0; i < size; i++) {
                b.append((char) ask("at " + i));
            }
            return b.toString();
        }

        /** A call that is refused: nothing but how often is another than before. */
        Desk refuses(String call, int why) {
            int[] ahead = refusals();
            List<String> before = seen();
            due(call, why);
            List<String> after = seen();
            same(past + " changed by the last", after, before);
            int[] behind = refusals();
            for (int i = 0; i < 3; i++) {
                same(past + " counts " + i, behind[i], ahead[i] + (why == -2 - i ? 1 : 0));
            }
            return this;
        }

        Desk faults(int place) {
            return refuses("begins", -10 - place);
        }

        private int[] refusals() {
            Desk other = again();
            return new int[] {(int) other.ask("told 0"), (int) other.ask("told 1"), (int) other.ask("told 2")};
        }

        /** All that can be seen now, further back, with sessions ended, and of THE TEXT. */
        private List<String> seen() {
            List<String> all = new ArrayList<>();
            look(all);
            long states = sees("told 4");
            Desk other = again();
            for (int i = 0; i < states; i++) {
                other.go("back").look(all);
            }
            long sessions = sees("count 2");
            other = again();
            for (int i = 0; i < sessions; i++) {
                other.go("ends").look(all);
            }
            all.add(" then begins " + sees("begins") + ", " + sees("variable 1") + " " + again().go("begins").again().bytes());
            return all;
        }

        private void look(List<String> all) {
            StringBuilder b = new StringBuilder();
            Desk other = again();
            for (int what = 0; what < 6; what++) {
                b.append(other.ask("count " + what)).append(' ');
            }
            b.append(other.ask("told 3")).append(' ').append(other.ask("told 4"));
            for (int i = 0; i < 48; i++) {
                b.append(' ').append(other.ask("variableAt " + i / 12 + " " + i % 12));
            }
            b.append(" [").append(again().bytes()).append("] ");
            if (other.ask("count 2") > 0) {
                lookAtStops(b);
            }
            all.add(b.toString());
        }

        private void lookAtStops(StringBuilder b) {
            Desk other = again();
            b.append("unlike ").append(other.ask("unlike"));
            for (int n = 0; n < 10; n++) {
                b.append(" stop ").append(n);
                for (int what = 0; what < 5; what++) {
                    b.append(' ').append(other.ask("stop " + n + " " + what));
                }
                for (int i = 0; i < 3; i++) {
                    b.append(' ').append(other.ask("held " + n + " " + i));
                }
            }
            other = again();
            for (int n = 0; n < 10; n++) {
                for (int j = 0; other.ask("occurrence " + n + " " + j + " 0") != NONE; j++) {
                    b.append(" of ").append(n);
                    for (int what = 0; what < 4; what++) {
                        b.append(' ').append(other.ask("occurrence " + n + " " + j + " " + what));
                    }
                }
            }
        }
    }

    private static Desk after(String... past) {
        return new Desk().go(past);
    }

    private static String many(String s, int n) {
        return s.repeat(n);
    }

    /** THE DOCUMENT of n bytes a, the caret behind all. */
    private static Desk filled(int n) {
        Desk d = after("begin:" + many("a", n / 2), "begins");
        return n % 2 == 0 ? d : d.go("keys:a");
    }

    private static void template(String text, String shown) {
        Desk d = after("begin:" + text);
        checks++;
        if (d.sees("begins") <= -10) {
            say("a fault in " + text);
        }
        d.shows(shown);
    }

    private static void fault(String text, int place) {
        after("text:" + text).faults(place);
    }

    // ---- THE DOCUMENT, VARIABLES

    private static void theDocument() {
        sentence = "THE DOCUMENT .. 240 at most";
        filled(239).due("key 97", 240).refuses("key 97", FULL);
        filled(239).due("begin:b", ENDED).counts(0, 240);
        filled(239).go("text:bc").refuses("begins", FULL);
        filled(240).refuses("key 97", FULL).go("cuts 0 1").due("key 97", 240);
        filled(240).due("begin:", ENDED).counts(0, 240);
        filled(240).due("begin:$1", 1).counts(0, 240).refuses("key 97", FULL);

        sentence = "none at first";
        after().counts(0, 0).due("at 0", NONE);
        sentence = "the CARET .. (0 at first)";
        after().counts(1, 0).due("caret 0", 0);
        sentence = "the CARET stands ahead of one of them or behind all";
        after("keys:abc").due("caret 0", 3).due("key 120", 4).shows("xabc");
        after("keys:abc").due("caret 2", 3).due("key 120", 4).shows("abxc");
        after("keys:abc", "caret 0").due("caret 3", 0).due("key 120", 4).shows("abcx");

        sentence = "VARIABLES A .. D are texts of 12 bytes at most";
        after("text:abcdefghijkl").due("variable 0", 12).due("variableAt 0 11", 'l').due("variableAt 0 12", NONE);
        after("text:abcdefghijklm").refuses("variable 0", BAD);
        sentence = "VARIABLES .. none of any byte at first";
        for (int v = 0; v < 4; v++) {
            after().due("variableAt " + v + " 0", NONE);
        }
        template("<$A$B$C$D>", "<>");
    }

    // ---- ITEMS

    private static void items() {
        sentence = "A TEMPLATE is ITEMS in a row: a byte (32 .. 126 ..)";
        template(" !}~", " !}~");
        fault("a\u001f", 1);
        fault("a\u007f", 1);
        fault("\u0000", 0);
        fault("${1:\u001f}", 4);
        fault("${1:\u007f}", 4);

        sentence = "$ and \\ only with a \\ ahead, which shows the byte (32 .. 126) behind it";
        template("\\$\\\\\\a\\ \\~\\}\\{", "$\\a ~}{");
        fault("a$$", 2);
        fault("\\\u001f", 1);
        fault("\\\u007f", 1);
        fault("a\\", 2);

        sentence = "} so, too, within a DEFAULT, which would end by it";
        template("}${1:a\\}b}}", "}a}b}");
        template("${1:${2:a}b}c}", "abc}");
        after("begin:${1:a}b}").due("occurrence 1 0 1", 1);

        sentence = "$ and a letter A .. D";
        Desk all = after("text:a", "variable 0", "text:b", "variable 1", "text:c", "variable 2", "text:d", "variable 3");
        all.due("begin:$D$C$B$A", ENDED).shows("dcba");
        fault("$@", 1);
        fault("$E", 1);
        fault("$a", 1);
        sentence = "what that VARIABLE is when the SESSION begins";
        after("text:v", "variable 0", "begin:$A${1:$A}", "text:w", "variable 0").shows("vv")
            .go("begins", "begin:$A").shows("vw");
        after("text:$1\\}", "variable 2", "begin:${1:$C}.").shows("$1\\}.");

        sentence = "an OCCURRENCE of a STOP n (0 .. 9)";
        after("begin:$0$9").counts(5, 2).counts(3, 9);
        after("begin:${0:a}${9:b}").counts(5, 2).shows("ab");
        after("begin:$10").due("stop 1 0", 1).shows("0");
        fault("$/", 1);
        fault("$:", 1);
        fault("${/:a}", 2);
        fault("${::a}", 2);
        fault("${10:a}", 3);
        fault("${1}", 3);
        fault("${A:a}", 2);
    }

    private static void choices() {
        sentence = "a CHOICE bytes in a row (perhaps none ..)";
        after("begin:${1||}").due("stop 1 4", 1).due("choice 1 0 0", NONE).shows("");
        after("begin:${1|,|}").due("stop 1 4", 2).due("picks 1", 0).refuses("picks 2", NO);
        after("begin:${1| ~|}").shows(" ~");
        fault("${1|\u001f|}", 4);
        fault("${1|\u007f|}", 4);
        sentence = "$ \\ , | only with a \\ ahead";
        after("begin:${1|\\$\\\\\\,\\||}").due("stop 1 4", 1).shows("$\\,|");
        after("begin:${1|a,b|}").due("stop 1 4", 2).shows("a");
        fault("${1|$|}", 4);
        fault("${1|a|b|}", 6);
        fault("${1|\\\u001f|}", 5);
        fault("${1|\\\u007f|}", 5);
        fault("${1|a\\|}", 8);
        // } is not among them
        template("${1|}|}${2:${3|}|}.}", "}}.");
        sentence = "a STOP 9 CHOICES; a 10th CHOICE: its ,";
        after("begin:${1|0,1,2,3,4,5,6,7,8|}").due("stop 1 4", 9).due("choice 1 8 0", '8').due("choice 1 9 0", NONE)
            .due("picks 8", 1).shows("8").refuses("picks 9", NO);
        fault("${1|0,1,2,3,4,5,6,7,8,9|}", 21);
        fault("${1|,,,,,,,,,", 12);
        after("begin:${1|\\,,\\,,\\,,\\,,\\,,\\,,\\,,\\,,\\,\\,|}").due("stop 1 4", 9);
        template("${1|a,b,c,d,e,f,g,h,i|}${2|a,b,c,d,e,f,g,h,i|}${1|x,y|}", "aaa");
    }

    private static void rules() {
        sentence = "u all letters a .. z as A .. Z";
        template("${1:`az{@AZ[mM}|${1/u}", "`az{@AZ[mM|`AZ{@AZ[MM");
        sentence = "l the other way";
        template("${1:`az{@AZ[mM}|${1/l}", "`az{@AZ[mM|`az{@az[mm");
        sentence = "c only the first byte as by u";
        template("${1:aab}|${1/c}", "aab|Aab");
        template("${1:`a}|${1/c}", "`a|`a");
        template("${1:}|${1/c}", "|");
        template("${1:z}|${1/c}", "z|Z");
        sentence = "b backwards";
        template("${1:abc}|${1/b}", "abc|cba");
        template("${1:abcd}|${1/b}", "abcd|dcba");
        template("${1:a}|${1/b}", "a|a");
        template("${1:}|${1/b}", "|");
        sentence = "${n/xy} , each byte x as y (both 32 .. 126, neither } nor \\ )";
        template("${1:axbx}|${1/xy}", "axbx|ayby");
        template("${1:a b~}|${1/ ~}|${1/~ }", "a b~|a~b~|a b ");
        template("${1:u|/\\$}${1/u|}${1//$}${1/$u}", "u|/$||/$u|$$u|/u");
        template("${1:ulcb}${1/uu}${1/ux}", "ulcbulcbxlcb");
        fault("${1/}}", 4);
        fault("${1/}a}", 4);
        fault("${1/x}", 5);
        fault("${1/\\a}", 4);
        fault("${1/a\\}", 5);
        fault("${1/u\\}", 5);
        fault("${1/\u001fa}", 4);
        fault("${1/\u007fa}", 4);
        fault("${1/a\u001f}", 5);
        fault("${1/a\u007f}", 5);
        fault("${1/xyz}", 6);
        fault("${1/xy\\}", 6);
        int[] begins = {0, 1, 2, 3, 4, 5};
        for (int rule : begins) {
            String[] told = {"$1", "${1/u}", "${1/l}", "${1/c}", "${1/b}", "${1/ub}"};
            after("begin:" + told[rule]).due("occurrence 1 0 2", rule);
        }
    }

    private static void limits() {
        sentence = "DEFAULTS are within one another 4 deep at most; a DEFAULT within 4 others: its :";
        template("${1:${2:${3:${4:a}}}}", "a");
        fault("${1:${2:${3:${4:${5:a}}}}}", 19);
        template("${1:${2:${3:${4:a}${5:b}}${6:${7:c}}}}${8:${9:d}}", "abcd");
        template("${1:${2:${3:${4:a$5${6|b|}${1/u}}}}}", "ab");
        fault("${1:${2:${3:a}${4:${5:b${6:c}}}}}", 26);
        // also within one that is no MASTER's
        fault("${1:}${1:${1:${1:${1:${2:}}}}}", 24);

        sentence = "a TEMPLATE has 16 OCCURRENCES at most; a 17th OCCURRENCE: its $";
        after("begin:" + many("$1", 16)).due("stop 1 3", 16).due("occurrence 1 15 1", 0).due("occurrence 1 16 1", NONE);
        fault(many("$1", 17), 32);
        fault(many("$1", 16) + "ab${2:c}", 34);
        fault(many("$1", 16) + "ab${2|c|}", 34);
        fault(many("$1", 16) + "ab${1/u}", 34);
        template(many("$1", 15) + "${1/u}$A$D.", ".");
        fault("${1:" + many("$2", 16) + "}", 34);
        sentence = "a TEMPLATE has 16 OCCURRENCES .. (also of those that are not there)";
        after("begin:${1:}${1:" + many("$2", 14) + "}.").shows(".").due("stop 2 3", 0).due("stop 1 3", 2);
        fault("${1:}${1:" + many("$2", 14) + "}$3", 38);

        sentence = "FAULT: the place of the first byte that can not stand there";
        fault("\u0001" + many("a", 119), 0);
        fault(many("a", 119) + "\u0001", 119);
        after("text:$x$y").due("begins", -11);
        sentence = "the TEXT's length, if it ends too early";
        fault(many("a", 119) + "$", 120);
        String[] early = {"$", "\\", "${", "${1", "${1:", "${1:a", "${1:a\\}", "${1:${2:a}", "${1|", "${1|a", "${1|a,", "${1|a\\",
            "${1|a|", "${1/", "${1/u", "${1/xy"};
        for (String text : early) {
            fault(text, text.length());
        }
    }

    // ---- MASTERS, and what STOPS HOLD

    private static void masters() {
        sentence = "The MASTER of a STOP: the first OCCURRENCE of it with a DEFAULT or CHOICES";
        after("begin:$1${1/u}${1:b}${1|c|}").due("occurrence 1 2 3", 1).due("occurrence 1 0 3", 0).due("occurrence 1 3 3", 0)
            .shows("bBbb");
        after("begin:$1${1/u}${1|c|}${1:b}").due("occurrence 1 2 3", 1).due("occurrence 1 3 3", 0).shows("cCcc");
        after("begin:$1${1:}").due("occurrence 1 0 3", 0).due("occurrence 1 1 3", 1);
        sentence = "else the first without a RULE";
        after("begin:${1/u}$1$1").due("occurrence 1 0 3", 0).due("occurrence 1 1 3", 1).due("occurrence 1 2 3", 0);
        sentence = "none, if all have RULES";
        after("begin:${1/u}${1/b}").due("occurrence 1 0 3", 0).due("occurrence 1 1 3", 0).due("stop 1 2", 0)
            .due("stop 1 4", 0).due("stop 1 0", 1).refuses("rubs", NO).refuses("picks 0", NO).due("key 97", 2).shows("Aa");

        sentence = "What is within a DEFAULT that is no MASTER's is not there at all and counts for nothing";
        after("begin:${1:a}${1:${2:b}$3}").counts(5, 1).due("stop 2 0", 0).due("stop 2 3", 0).due("stop 3 0", 0)
            .due("occurrence 2 0 0", NONE).due("unlike", 2).shows("aa");
        after("begin:${1:a}${1:${2:b}}${2:c}").due("occurrence 2 0 3", 1).holds(2, "c").shows("aac");
        after("begin:${1:a}${1:$2}${2/u}$2").due("occurrence 2 0 3", 0).due("occurrence 2 1 3", 1);
        sentence = "(so whether it is one is settled from the left, the outer ones ahead)";
        after("begin:${1:${1:${2:x}}y}").due("stop 2 0", 0).due("stop 1 3", 2).shows("y");
        after("begin:${2:${1:a}}${1:${2:b}}").shows("aa").due("stop 2 3", 1).due("stop 1 3", 2);

        sentence = "A STOP HOLDS a text: if it is SET, that which it was SET to";
        after("begin:${1:ab}", "key 99").holds(1, "c");
        after("begin:${1:ab}", "rubs").holds(1, "").due("stop 1 1", 1);
        sentence = "else, by its MASTER: what the ITEMS of the DEFAULT show, or the first CHOICE, or nothing";
        after("begin:${1:a${2:b}$2}").holds(1, "abb");
        after("begin:${1|a,b|}").holds(1, "a");
        after("begin:$1").holds(1, "");
        sentence = "every other OCCURRENCE shows that, by its RULE if it has one";
        after("begin:${1/u}${1:ab}$1${1/b}", "keys:xyz").shows("XYZxyzxyzzyx");
        sentence = "a STOP that would be shown while what it HOLDS is being made up .. shows nothing there";
        after("begin:${1:a$1${1/u}b}$1").shows("abab").due("occurrence 1 1 1", 0);
        template("${1:a$2}${2:b$3}${3:c$1}", "abcbcacab");
        after("begin:${1:x${2:y$1}}$2").holds(1, "xy").holds(2, "yx").shows("xyyx");
        sentence = "shows nothing there: but one that is SET is not made up";
        after("begin:${1:a$2}${2:b$1}", "keys:cc").shows("ccbcc");
    }

    private static void settings() {
        sentence = "When a STOP is SET that was not: all that is within the DEFAULT of its MASTER is there no more";
        Desk d = after("begin:${1:a${2:b${3:c}}$4$1}$4").counts(5, 4).due("stop 1 3", 2).due("key 120", 1);
        d.counts(5, 2).due("stop 1 3", 1).due("stop 2 0", 0).due("stop 3 0", 0).due("stop 4 3", 1);
        after("begin:${1:a${2:b}}", "rubs").due("stop 2 0", 0);
        after("begin:$1${2:a${1|b,c|}}", "picks 1").due("stop 2 3", 1).due("stop 1 3", 2);
        sentence = "STOPS not SET whose MASTERS were there, within it, are SET to what they HELD ahead of that";
        after("begin:${1:a${2:b${3:c}}${4|d,e|}$5}$2$3$4$5", "key 120").shows("xbccd")
            .due("stop 2 1", 1).due("stop 3 1", 1).due("stop 4 1", 1).due("stop 5 1", 1).holds(2, "bc");
        after("begin:${1:x${2:y$1}}", "key 113").holds(2, "yx").due("stop 2 0", 0);
        after("begin:${1:a${0:b}}$0", "keys:xy").shows("xyb").due("stop 0 1", 1).holds(0, "b");
        after("begin:${1:a${2:b$0}}${0:z}$2").holds(2, "bz").go("key 120").holds(2, "bz").shows("xzbz");
        after("begin:${1:a${2:b}}$2", "key 120", "back", "key 120", "back", "key 120").shows("xb").holds(2, "b");
        sentence = "STOPS not SET .. (those that are SET stay as they are)";
        after("begin:${1:a${2:b}}$2", "nexts", "key 113", "prevs", "key 120").shows("xq");
        sentence = "whose MASTERS were .. within it (another OCCURRENCE there is not enough)";
        after("begin:${1:a$2}${2:b}", "key 120").due("stop 2 1", 0).shows("xb");
        after("begin:${1:a${2/u}}${2/l}", "key 120").due("stop 2 1", 0);
        sentence = "When a STOP is SET that was not (once it is SET no other is SET by it)";
        after("begin:${1:a}${2:b}", "keys:xy").due("stop 2 1", 0).due("stop 1 1", 1);
        sentence = "A STOP is THERE, if an OCCURRENCE of it is there";
        after("begin:${1:${2:b}}${2/u}", "key 120").due("stop 2 0", 1).due("nexts", 2);
        after("begin:${1:${2:b}}", "key 120").due("stop 2 0", 0).due("nexts", ENDED);
    }

    /** No bound is told for what a STOP HOLDS: more than THE DOCUMENT's 240 is kept, too. */
    private static void longOnes() {
        sentence = "are SET to what they HELD ahead of that: 240 bytes";
        after("begin:${1:" + many("a", 60) + "${2:$1$1$1$1}}").counts(0, 60).due("stop 2 2", 240).go("keys:xy").due("stop 2 2", 240)
            .due("held 2 239", 'a').due("held 2 240", NONE).due("stop 2 1", 1).shows("xy");
        sentence = "are SET to what they HELD ahead of that: 241 bytes, and more";
        Desk d = after("begin:${1:" + many("a", 60) + "${2:$1$1$1$1$0}}${0:z}").counts(0, 62).due("stop 2 2", 241);
        d.due("held 2 240", 'z').go("key 120").due("stop 2 2", 241).due("held 2 240", 'z').due("held 2 241", NONE);
        d.due("stop 2 1", 1).go("key 121").due("stop 2 2", 241).due("held 2 239", 'a').due("held 2 240", 'z').shows("xyz");
        d.go("begin:q$3", "key 113").due("stop 2 2", 0).go("ends").due("stop 2 2", 241).due("held 2 240", 'z').shows("qqz");
        d.go("back", "back", "back", "back").due("stop 2 2", 241).shows("xz").go("back").due("stop 2 1", 0).due("stop 2 2", 241);
        Desk more = after("begin:${1:" + many("a", 50) + "${2:${3:$1$1$1$4$1$1}$3$3}}${4:q}").due("stop 2 2", 753).due("stop 3 2", 251);
        more.go("key 120").due("stop 2 2", 753).due("stop 3 2", 251).due("held 3 150", 'q').due("held 2 401", 'q').due("held 2 752", 'a')
            .due("held 2 753", NONE).shows("xq");
        sentence = "what they HELD ahead of that (not what they would HOLD then)";
        more.due("nexts", 4).due("key 119", 2).shows("xw").due("stop 3 2", 251).due("held 3 150", 'q').due("held 2 401", 'q');
        after("begin:${1:" + many("a", 60) + "${2:$1$1$1$1$4}}${4:q}", "nexts", "nexts", "key 119", "prevs", "prevs", "key 120")
            .shows("xw").due("stop 2 2", 241).due("held 2 240", 'w');
        sentence = "are SET to what they HELD: where more than 240 bytes would be shown of it, FULL";
        after("begin:${3:" + many("a", 61) + "${1:x${2:$3$3$3$3}}$2}").counts(0, 62).due("stop 2 2", 248).refuses("key 97", FULL)
            .refuses("rubs", FULL).go("text:b").refuses("begins", FULL).due("nexts", 2);
    }

    // ---- SESSIONS

    private static void sessions() {
        sentence = "A SESSION .. at a STOP, the least THERE of 1 to 9 at first";
        after().due("begin:$9$0", 9);
        after().due("begin:$2$1$0", 1);
        after().due("begin:${3:${2:a}}", 2);
        sentence = "SESSIONS lie upon one another, 3 at most";
        after("begin:$1", "begins").due("begins", 1).counts(2, 3).refuses("begins", NO).counts(2, 3);
        sentence = "keys go to the uppermost one";
        after("begin:<$1>", "begin:[$2]", "keys:ab").shows("<[ab]>").holds(2, "ab").counts(3, 2);
        sentence = "A SESSION upon another one takes the place of what the STOP of that one HOLDS";
        after("begin:${1:abc}.${1/u}", "begin:x$2").shows("x.X").go("key 121").shows("xy.XY");
        sentence = "(it is SET to what the upper one shows, always)";
        after("begin:${1:a${2:b}}$2", "begin:$3").shows("b").go("ends").due("stop 1 1", 1).due("stop 2 1", 1).holds(1, "");
        sentence = "THE DOCUMENT: bytes ahead of where the lowest SESSION began, what it shows, bytes behind";
        after("keys:()", "caret 1", "begin:${1:a}b").shows("(ab)").go("keys:xy").shows("(xyb)");
        after("keys:()", "caret 0", "begin:${1:a}").shows("a()");
        after("keys:()", "begin:${1:a}").shows("()a");

        sentence = "FRESH: a STOP that was come to, or begun at, or PICKED, and neither key() nor rubs() since";
        after("begin:$1$2").counts(4, 1).go("key 97").counts(4, 0).go("nexts").counts(4, 1).go("keys:b").counts(4, 0)
            .go("prevs").counts(4, 1).go("rubs").counts(4, 0).go("key 99").counts(4, 0).shows("cb");
        after("begin:${1|a,b|}", "key 120").counts(4, 0).go("picks 1").counts(4, 1).go("rubs").counts(4, 0);
        after("begin:$1", "text:a", "variable 0").counts(4, 1);
        after("begin:${1:ab}", "rubs").counts(4, 0).refuses("rubs", NO).counts(4, 0);
        after("begin:$1").refuses("key 31", BAD).refuses("rubs", NO).counts(4, 1);
    }

    private static void endings() {
        sentence = "A SESSION ENDS: .. the CARET then stands where the first OCCURRENCE that is there of STOP 0 begins";
        after("keys:()", "caret 1", "begin:a${1:b$0c}d${0:e}", "ends").shows("(abecde)").counts(1, 3);
        after("begin:a${1:b$0c}d${0:e}f", "key 120", "ends").shows("axdef").counts(1, 3);
        after("begin:${0/u}a${1:b}${0:c}", "ends").shows("Cabc").counts(1, 0);
        sentence = "(behind all that it showed, if none is)";
        after("keys:()", "caret 1", "begin:a${1:b}", "ends").shows("(ab)").counts(1, 3);
        after("keys:()", "caret 1", "begin:${1:b$0}", "rubs", "ends").shows("()").counts(1, 1);
        sentence = "or the STOP's below it, which is SET to that, is not FRESH, and goes on";
        after("begin:${1:a}.$1$2", "begin:b${3:c}$0", "ends").holds(1, "bc").due("stop 1 1", 1).counts(4, 0).counts(3, 1)
            .due("key 100", 7).shows("bcd.bcd");
        after("begin:${1:a}", "begin:${2:b}").due("nexts", ENDED).counts(2, 1).counts(4, 0).counts(3, 1).due("rubs", 0);
        sentence = "A TEMPLATE without a STOP of 1 to 9 that is THERE ENDS at once";
        after().due("begin:", ENDED).counts(2, 0).counts(1, 0);
        after().due("begin:ab${0:cd}e", ENDED).counts(2, 0).counts(1, 2).shows("abcde");
        after().due("begin:${0:a}${0:${1:b}}", ENDED).counts(2, 0).counts(1, 0).shows("aa");
        after().due("begin:ab", ENDED).counts(1, 2);
        after("begin:${1:q}r").due("begin:${0:xy}", ENDED).counts(2, 1).counts(4, 0).holds(1, "xy").shows("xyr").due("key 122", 4);
        after("begin:${1:q}r").due("begin:", ENDED).due("stop 1 1", 1).shows("r");
        after().due("begin:$1", 1).counts(2, 1);
        sentence = "A SESSION .. for a TEMPLATE that was begun (nothing is SET of one that was before)";
        after("begin:${1:a${0:b}}", "key 120", "back", "ends", "begin:${1:c${0:d}}").shows("acdb").due("stop 1 1", 0)
            .due("stop 0 1", 0);
    }

    private static void states() {
        sentence = "STATES: each call told S, if it is not refused, leaves one to go back to";
        after("text:a").tells(4, 0).go("clear").tells(4, 0);
        after("text:a", "variable 0").tells(4, 1).due("back", 0).due("variableAt 0 0", NONE);
        after("begin:a").tells(4, 1).due("back", 0).shows("").counts(1, 0);
        after("begin:$1").tells(4, 1).due("back", 0).counts(2, 0);
        after("key 97").tells(4, 1).due("back", 0).shows("");
        after("keys:ab", "rubs").tells(4, 3).due("back", 2).shows("ab").counts(1, 2);
        after("begin:$1$2", "nexts").tells(4, 2).due("back", 1).counts(3, 1);
        after("begin:$1$2", "nexts", "prevs").tells(4, 3).due("back", 2).counts(3, 2);
        after("begin:${1|a,b|}", "picks 1").tells(4, 2).due("back", 1).shows("a").due("stop 1 1", 0);
        after("begin:${1:a}", "ends").tells(4, 2).due("back", 1).counts(2, 1).counts(4, 1);
        after("begin:$1", "nexts").tells(4, 2).due("back", 1).counts(2, 1);
        after("keys:ab", "caret 0").tells(4, 3).due("back", 2).counts(1, 2);
        after("keys:ab", "caret 2").tells(4, 3);
        after("keys:ab", "cuts 0 1").tells(4, 3).due("back", 2).shows("ab").counts(1, 2);
        after("begin:a$1", "at 0", "count 0", "stop 1 0", "held 1 0", "choice 1 0 0", "occurrence 1 0 0", "unlike",
            "variableAt 0 0", "told 0", "digest").tells(4, 1);
        sentence = "(THE DOCUMENT, the CARET, VARIABLES, SESSIONS)";
        after("keys:ab", "text:c", "variable 2", "caret 1", "begin:$C${1:d}", "keys:xy", "begin:$2", "key 122").shows("aczb")
            .due("back", 7).counts(2, 2).counts(4, 1).shows("acb").due("back", 6).counts(2, 1).counts(4, 0).shows("acxyb")
            .due("back", 5).holds(1, "x").due("back", 4).counts(4, 1).shows("acdb").due("back", 3).counts(1, 1)
            .due("back", 2).counts(1, 2).due("variableAt 2 0", 'c').due("back", 1).due("variableAt 2 0", NONE)
            .due("back", 0).shows("a").refuses("back", NO);
        sentence = "(THE TEXT is not among them)";
        after("text:ab", "variable 0", "type 99", "back").tells(3, 3);
        sentence = "8 at most, older ones lost";
        after("keys:abcdefg").tells(4, 7);
        after("keys:abcdefgh").tells(4, 8).go("back", "back", "back", "back", "back", "back", "back").due("back", 0).shows("");
        after("keys:abcdefghi").tells(4, 8).go("back", "back", "back", "back", "back", "back", "back").due("back", 0).shows("a")
            .refuses("back", NO);
        after("keys:" + many("a", 20)).tells(4, 8).due("back", 7).due("key 98", 20).tells(4, 8);
        Desk twelve = after("keys:abcdefghijkl");
        for (int left = 7; left >= 0; left--) {
            twelve.due("back", left).shows("abcdefghijkl".substring(0, 4 + left));
        }
        Desk turned = after("keys:abcdefghijkl", "back", "key 120");
        for (int left = 7; left >= 0; left--) {
            turned.due("back", left).shows("abcdefghijk".substring(0, 4 + left));
        }
        Desk full = filled(240);
        for (int i = 1; i <= 10; i++) {
            full.due("caret " + (240 - i), 241 - i).tells(4, Math.min(8, 2 + i));
        }
        full.refuses("key 97", FULL).due("back", 7).counts(1, 231);
        after("keys:ab", "back", "keys:cd").due("back", 2).shows("ac").due("back", 1).shows("a").due("back", 0).shows("");
        sentence = "By a FAULT nothing counts";
        after("keys:a", "text:$").faults(1).tells(0, 0).tells(1, 0).tells(2, 0).tells(4, 1);
    }

    /** Where two refusals could be, the first of BAD, NO, FULL. */
    private static void order() {
        sentence = "Refused .. the first of: BAD .., NO .., FULL";
        after("text:" + many("a", 120)).refuses("type 128", BAD).refuses("type -1", BAD).refuses("type 97", FULL);
        filled(240).refuses("key 31", BAD).refuses("key 127", BAD).refuses("key 32", FULL);
        after().refuses("picks -1", BAD).refuses("picks 0", NO);
        filled(240).go("begin:${1|,a|}").refuses("picks -1", BAD).refuses("picks 2", NO).refuses("picks 1", FULL);
        after("begin:${1:ab}").refuses("caret 3", BAD).refuses("caret -1", BAD).refuses("caret 2", NO);
        after("begin:${1:ab}").refuses("cuts 0 3", BAD).refuses("cuts 0 0", BAD).refuses("cuts -1 1", BAD).refuses("cuts 0 2", NO);
        String[] bad = {"stop 10 0", "stop -1 0", "stop 0 5", "stop 0 -1", "held 10 0", "held -1 0", "held 0 -1", "choice 10 0 0",
            "choice -1 0 0", "choice 0 -1 0", "choice 0 0 -1", "occurrence 10 0 0", "occurrence -1 0 0", "occurrence 0 -1 0",
            "occurrence 0 0 4", "occurrence 0 0 -1"};
        for (String call : bad) {
            after("keys:a").refuses(call, BAD);
            after("begin:$0$1").refuses(call, BAD);
        }
        sentence = "FAULT (-10 less it) ahead of NO: 3 SESSIONS are open; FULL";
        after("begin:$1", "begins", "begins", "text:ab$").faults(3).go("text:" + many("a", 100)).refuses("begins", NO);
        filled(240).go("text:ab$").faults(3);
        after("begin:" + many("a", 118) + "$1", "begins", "begin:$1", "begin:$1", "text:" + many("a", 100)).refuses("begins", NO);
    }

    // ---- told

    private static void told() {
        sentence = "type: A byte (0 .. 127) comes behind THE TEXT: how many it has. BAD";
        after().due("type 0", 1).due("type 127", 2).refuses("type -1", BAD).refuses("type 128", BAD)
            .refuses("type " + LEAST, BAD).refuses("type " + MOST, BAD).due("type 97", 3);
        after("text:ab", "type 99").due("begins", ENDED).shows("abc");
        sentence = "type: FULL: 120";
        after("text:" + many("a", 119)).due("type 97", 120).refuses("type 97", FULL).due("clear", 120).due("type 97", 1);
        sentence = "clear: THE TEXT is empty: how many it had";
        after().due("clear", 0).due("type 97", 1).due("clear", 1).due("clear", 0).tells(3, 0).due("begins", ENDED).shows("");

        sentence = "variable: VARIABLE v (0 .. 3) becomes THE TEXT (which stays): how many bytes it has";
        after("text:ab").due("variable 0", 2).due("variable 3", 2).tells(3, 2).due("variableAt 3 1", 'b').due("variableAt 1 0", NONE);
        after("text:ab").refuses("variable -1", BAD).refuses("variable 4", BAD).refuses("variable " + LEAST, BAD)
            .refuses("variable " + MOST, BAD);
        after("text:ab", "variable 0", "clear").due("variable 0", 0).due("variableAt 0 0", NONE);
        after("text:abc", "variable 0", "text:d").due("variable 0", 1).due("variableAt 0 0", 'd').due("variableAt 0 1", NONE);
        after("text:$").due("variable 0", 1).due("begin:$A", ENDED).shows("$");
        sentence = "variable: BAD: also a byte of THE TEXT is not 32 .. 126";
        after("text: ~").due("variable 0", 2);
        after("text:a\u001f").refuses("variable 0", BAD);
        after("text:\u007fa").refuses("variable 0", BAD);
        after("text:a\u0000b").refuses("variable 0", BAD);
        sentence = "variable: BAD: .. or it has more than 12";
        after("text:" + many("a", 12)).due("variable 1", 12).go("type 97").refuses("variable 1", BAD);
        after("text:" + many("a", 120)).refuses("variable 1", BAD);

        sentence = "begins: ahead of the CARET's byte, or in the place of what the STOP of the uppermost SESSION HOLDS";
        after("keys:ab", "caret 0").due("begin:<>", ENDED).shows("<>ab").counts(1, 2);
        after("keys:ab", "caret 1").due("begin:<>", ENDED).shows("a<>b").counts(1, 3);
        after("keys:ab").due("begin:<$4>", 4).shows("ab<>");
        after("begin:$1${2:b}", "nexts", "begin:x${3:cd}y").shows("xcdy").due("begin:<$5>", 5).shows("x<>y").tells(3, 4);
        sentence = "begins: FAULT (-10 less it)";
        after("text:\u0001").faults(0).go("text:" + many("a", 119) + "$").faults(120);
        after("begin:${1:a}", "keys:b", "text:${1").faults(3);
        sentence = "begins: NO: 3 SESSIONS are open";
        after("begin:$1", "begins").due("begins", 1).refuses("begins", NO).go("clear").refuses("begins", NO)
            .due("ends", 2).due("begins", ENDED).counts(2, 2);
        sentence = "begins: FULL";
        filled(120).go("text:" + many("b", 118) + "$1").due("begins", 1).counts(0, 238);
        filled(230).due("begin:" + many("b", 10) + "$1", 1).counts(0, 240);
        filled(230).go("text:" + many("b", 11) + "$1").refuses("begins", FULL);
        after("begin:$1$1", "text:" + many("b", 118) + "$1").due("begins", 1).counts(0, 236);
        after("begin:$1$1", "text:" + many("b", 120)).due("begins", ENDED).counts(0, 240).refuses("key 97", FULL);
        after("begin:a$1$1", "text:" + many("b", 120)).refuses("begins", FULL);
        after("text:" + many("a", 12), "variable 0", "begin:$1").due("begin:" + many("$A", 20) + "$1", 1).counts(0, 240);
        after("text:" + many("a", 12), "variable 0", "begin:$1", "text:" + many("$A", 20) + "a$1").refuses("begins", FULL);
        after("text:" + many("a", 12), "variable 0", "begin:$1", "text:" + many("$A", 60)).refuses("begins", FULL);
        after("text:" + many("a", 12), "variable 0", "text:" + many("$A", 60)).refuses("begins", FULL);
    }

    // ---- keys

    private static void keys() {
        sentence = "key: Byte c (32 .. 126) is typed. BAD";
        after().due("key 32", 1).due("key 126", 2).refuses("key 31", BAD).refuses("key 127", BAD).refuses("key " + LEAST, BAD)
            .refuses("key " + MOST, BAD).refuses("key " + (256 + 'a'), BAD).shows(" ~");
        after("begin:$1").due("key 32", 1).due("key 126", 2).refuses("key 31", BAD).refuses("key 127", BAD).shows(" ~");
        sentence = "key: in a SESSION the STOP is SET to it alone, if FRESH, else to what it HOLDS with it behind";
        after("begin:${1:ab}").due("key 120", 1).due("key 121", 2).shows("xy");
        after("begin:${1:ab}$2", "key 120", "nexts", "prevs").due("key 121", 1).shows("y");
        after("begin:${1|ab,cd|}", "picks 1").due("key 120", 1).shows("x");
        sentence = "key: else it comes ahead of the CARET's byte, the CARET behind it";
        after("keys:ab", "caret 0").due("key 120", 3).counts(1, 1).shows("xab");
        sentence = "key: FULL";
        filled(238).due("begin:$1$1", 1).due("key 97", 240).refuses("key 97", FULL).due("rubs", 238);
        filled(239).go("begin:$1$1").refuses("key 97", FULL);
        filled(240).go("begin:${1:}").refuses("key 97", FULL);
        filled(238).go("begin:${1:bb}").counts(0, 240).due("key 97", 239).due("key 97", 240).refuses("key 97", FULL);
        after("begin:$1$1$1", "begin:" + many("b", 79) + "$1").counts(0, 237).due("key 97", 240).refuses("key 97", FULL);

        sentence = "rubs: In a SESSION the STOP is SET to nothing, if FRESH, else to what it HOLDS without the last byte";
        after("begin:${1:abc}").due("rubs", 0).due("stop 1 1", 1);
        after("begin:${1:abc}", "keys:xyz").due("rubs", 2).due("rubs", 1).shows("x").due("rubs", 0).refuses("rubs", NO);
        sentence = "rubs: else the byte ahead of the CARET goes";
        after("keys:abc", "caret 1").due("rubs", 2).shows("bc").counts(1, 0).refuses("rubs", NO);
        sentence = "rubs: NO: there is no byte to go (the STOP HOLDS none, FRESH or not)";
        after().refuses("rubs", NO);
        after("keys:a", "caret 0").refuses("rubs", NO);
        after("begin:a$1b").counts(4, 1).refuses("rubs", NO);
        after("begin:a${1:b}c", "rubs").counts(4, 0).refuses("rubs", NO);
        after("begin:${1|,a|}").refuses("rubs", NO).go("picks 1").due("rubs", 0);
        sentence = "rubs: FULL";
        // STOP 2 shows nothing within 3 until it is SET to what it HELD
        after("begin:${3:" + many("a", 80) + "${1:${2:$3}}$2$2}").counts(0, 80).due("rubs", 240);
        after("begin:${3:" + many("a", 81) + "${1:${2:$3}}$2$2}").counts(0, 81).refuses("rubs", FULL);
    }

    private static void ways() {
        sentence = "nexts: the least STOP THERE of 1 to 9 that is greater: it; ENDED: there is none, the SESSION ENDS";
        after("begin:$9$2$1$0").due("nexts", 2).due("nexts", 9).due("nexts", ENDED).counts(2, 0).refuses("nexts", NO);
        after("begin:${8:a$9}$7", "nexts", "key 120").due("nexts", ENDED).shows("x");
        sentence = "nexts: NO: no SESSION";
        after().refuses("nexts", NO);
        sentence = "prevs: To the greatest STOP THERE of 1 to 9 that is less: it. NO: no SESSION, none ahead";
        after().refuses("prevs", NO);
        after("begin:$0$1$4$9", "nexts", "nexts").due("prevs", 4).due("prevs", 1).refuses("prevs", NO).counts(3, 1);
        after("begin:${2:${1:a}}", "nexts", "key 120").refuses("prevs", NO);
        after("begin:$1$2", "nexts", "begin:$3").refuses("prevs", NO);

        sentence = "picks: The STOP is SET to its MASTER's CHOICE i (0 on; if that is there), FRESH";
        after("begin:${1|ab,,c|}$1").due("picks 2", 2).counts(4, 1).due("stop 1 1", 1).shows("cc").due("picks 1", 0).due("picks 0", 4)
            .shows("abab").tells(4, 4);
        after("begin:${1|a|}").due("picks 0", 1).due("stop 1 1", 1).counts(4, 1);
        after("begin:$1${1|a,b|}${1|c,d,e|}").due("picks 1", 3).shows("bbb").refuses("picks 2", NO);
        sentence = "picks: BAD: below 0";
        after("begin:${1|a,b|}").refuses("picks -1", BAD).refuses("picks " + LEAST, BAD);
        sentence = "picks: NO: no SESSION, or it has not so many";
        after().refuses("picks 0", NO);
        after("begin:${1|a,b|}").due("picks 1", 1).refuses("picks 2", NO).refuses("picks " + MOST, NO);
        after("begin:${1:a}").refuses("picks 0", NO);
        after("begin:${1:${2|a,b|}}$2", "nexts").due("picks 1", 2).go("prevs", "key 120", "nexts").refuses("picks 0", NO).shows("xb");
        sentence = "picks: FULL";
        filled(238).go("begin:${1|,a,ab,abc|}").due("picks 2", 240).refuses("picks 3", FULL).due("picks 1", 239);

        sentence = "ends: The uppermost SESSION ENDS: how many are open yet. NO: none";
        after().refuses("ends", NO);
        after("begin:$1", "begins", "begins").due("ends", 2).due("ends", 1).due("ends", 0).refuses("ends", NO);

        sentence = "caret: The CARET stands ahead of byte p (behind all): where it stood. BAD";
        after("keys:abc").due("caret 0", 3).due("caret 3", 0).refuses("caret 4", BAD).refuses("caret -1", BAD)
            .refuses("caret " + MOST, BAD).refuses("caret " + LEAST, BAD).due("caret 1", 3);
        after().due("caret 0", 0).refuses("caret 1", BAD);
        filled(240).due("caret 240", 240).refuses("caret 241", BAD);
        sentence = "caret: NO: a SESSION is open";
        after("begin:${1:ab}").refuses("caret 0", NO).refuses("caret 2", NO).go("ends").due("caret 0", 2);

        sentence = "cuts: n bytes from p on go (the CARET is nearer by as many of them as were ahead of it)";
        after("keys:abcdef", "caret 3").due("cuts 0 3", 3).counts(1, 0).shows("def");
        after("keys:abcdef", "caret 3").due("cuts 3 3", 3).counts(1, 3).shows("abc");
        after("keys:abcdef", "caret 1").due("cuts 3 2", 4).counts(1, 1).shows("abcf");
        after("keys:abcdef", "caret 5").due("cuts 1 2", 4).counts(1, 3).shows("adef");
        after("keys:abcdef", "caret 3").due("cuts 2 2", 4).counts(1, 2).shows("abef");
        after("keys:abcdef", "caret 3").due("cuts 2 1", 5).counts(1, 2).shows("abdef");
        after("keys:abcdef", "caret 3").due("cuts 0 6", 0).counts(1, 0).shows("");
        sentence = "cuts: BAD: not all are there, or n is below 1";
        after("keys:abc").refuses("cuts 0 4", BAD).refuses("cuts 2 2", BAD).refuses("cuts 3 1", BAD).refuses("cuts 4 1", BAD)
            .refuses("cuts 0 0", BAD).refuses("cuts 3 0", BAD).refuses("cuts 1 -1", BAD).refuses("cuts -1 1", BAD)
            .refuses("cuts -1 2", BAD).due("cuts 2 1", 2).due("cuts 0 2", 0).refuses("cuts 0 1", BAD);
        after("keys:abc").refuses("cuts 1 " + MOST, BAD).refuses("cuts " + MOST + " 1", BAD).refuses("cuts " + MOST + " " + MOST, BAD)
            .refuses("cuts 1 " + LEAST, BAD).refuses("cuts " + LEAST + " " + LEAST, BAD).refuses("cuts " + LEAST + " 1", BAD);
        sentence = "cuts: NO: a SESSION is open";
        after("begin:${1:ab}").refuses("cuts 0 1", NO).refuses("cuts 0 2", NO).go("ends").due("cuts 0 2", 0);
    }

    // ---- shown

    private static void looks() {
        sentence = "at: Byte i of THE DOCUMENT; NONE: not so many. BAD: below 0";
        after("keys:ab").due("at 0", 'a').due("at 1", 'b').due("at 2", NONE).due("at " + MOST, NONE).refuses("at -1", BAD)
            .refuses("at " + LEAST, BAD).tells(1, 0);
        filled(240).due("at 239", 'a').due("at 240", NONE);

        sentence = "count: (what 0 .. 5). BAD";
        Desk plain = after("keys:ab", "caret 1").due("count 0", 2).due("count 1", 1).due("count 2", 0);
        plain.due("count 3", NONE).due("count 4", 0).due("count 5", 0);
        after("begin:a$0$7").due("count 0", 1).due("count 1", NONE).due("count 2", 1).due("count 3", 7).due("count 4", 1)
            .due("count 5", 2);
        String[] badCounts = {"count -1", "count 6", "count " + MOST, "count " + LEAST};
        for (String call : badCounts) {
            after("begin:$1").refuses(call, BAD);
            after("keys:a").refuses(call, BAD);
        }
        sentence = "count: how many STOPS of 0 to 9 are THERE in it (5)";
        after("begin:$0$1$2$3$4$5$6$7$8$9").counts(5, 10).go("begin:$1").counts(5, 1);

        sentence = "stop: Of STOP n of the uppermost SESSION .. BAD; NO: no SESSION";
        after().refuses("stop 0 0", NO).refuses("stop 9 4", NO);
        Desk d = after("begin:${1:a${9|b,c|}}$9${0:d}");
        long[][] want = {{1, 0, 1, 1, 0}, {1, 0, 2, 1, 0}, {0, 0, 0, 0, 0}, {1, 0, 1, 2, 2}};
        int[] stops = {0, 1, 2, 9};
        for (int k = 0; k < 4; k++) {
            for (int what = 0; what < 5; what++) {
                d.due("stop " + stops[k] + " " + what, want[k][what]);
            }
        }
        d.refuses("stop 10 0", BAD).refuses("stop -1 0", BAD).refuses("stop 0 5", BAD).refuses("stop 0 -1", BAD)
            .refuses("stop " + LEAST + " 0", BAD).refuses("stop 0 " + MOST, BAD);
        sentence = "stop: CHOICES of its MASTER, if that is there (4; else 0)";
        d.go("key 120").due("stop 9 4", 0).due("stop 9 3", 1).due("stop 9 1", 1).due("stop 1 1", 1);
        after("begin:${1|a,b|}", "key 120").due("stop 1 4", 2);
        after("begin:$1${1|a,b|}${1|c|}").due("stop 1 4", 2);

        sentence = "held: Byte i of what STOP n of the uppermost SESSION HOLDS; NONE. BAD (i below 0); NO: no SESSION";
        after().refuses("held 0 0", NO);
        after("begin:${1:ab}${0:c}${9:d}${1/u}").due("held 1 0", 'a').due("held 1 1", 'b').due("held 1 2", NONE).due("held 1 " + MOST, NONE)
            .due("held 0 0", 'c').due("held 9 0", 'd').due("held 9 1", NONE).due("held 5 0", NONE).refuses("held 1 -1", BAD)
            .refuses("held 1 " + LEAST, BAD).refuses("held -1 0", BAD).refuses("held 10 0", BAD);

        sentence = "choice: Byte i of CHOICE k of STOP n's MASTER there; NONE: not so many. BAD (k, i below 0); NO: no SESSION";
        after().refuses("choice 1 0 0", NO);
        after("begin:${1|ab,,c|}${9|d|}").due("choice 1 0 0", 'a').due("choice 1 0 1", 'b').due("choice 1 0 2", NONE)
            .due("choice 1 1 0", NONE).due("choice 1 2 0", 'c').due("choice 1 2 1", NONE).due("choice 1 3 0", NONE)
            .due("choice 1 " + MOST + " 0", NONE).due("choice 1 0 " + MOST, NONE).due("choice 9 0 0", 'd').due("choice 0 0 0", NONE)
            .refuses("choice 1 -1 0", BAD).refuses("choice 1 0 -1", BAD).refuses("choice -1 0 0", BAD).refuses("choice 10 0 0", BAD);
        after("begin:${1:${2|a|}}$2").due("choice 2 0 0", 'a').go("key 120").due("choice 2 0 0", NONE);
        after("begin:${1:a}${1|b|}").due("choice 1 0 0", NONE);
    }

    private static void occurrences() {
        sentence = "occurrence: Of the j-th OCCURRENCE (0 on ..) .. NONE: not so many. BAD (j below 0); NO: no SESSION";
        after().refuses("occurrence 1 0 0", NO);
        after("begin:$1$1${0:a}$9").due("occurrence 1 1 0", 0).due("occurrence 1 2 0", NONE).due("occurrence 1 " + MOST + " 0", NONE)
            .due("occurrence 0 0 1", 1).due("occurrence 9 0 0", 1).due("occurrence 5 0 0", NONE).due("occurrence 1 0 3", 1)
            .refuses("occurrence 1 -1 0", BAD).refuses("occurrence 1 " + LEAST + " 0", BAD).refuses("occurrence -1 0 0", BAD)
            .refuses("occurrence 10 0 0", BAD).refuses("occurrence 1 0 -1", BAD).refuses("occurrence 1 0 4", BAD);
        sentence = "occurrence: (.. as they stand in the TEMPLATE) that is there";
        after("begin:${1:${2:a}}${2/u}", "key 120").due("occurrence 2 0 2", 1).due("occurrence 2 1 2", NONE);
        sentence = "occurrence: where in THE DOCUMENT it begins itself (what 0)";
        after("keys:()", "caret 1", "begin:${1:ab}${1/u}c$1").due("occurrence 1 0 0", 1).due("occurrence 1 1 0", 3)
            .due("occurrence 1 2 0", 6).due("occurrence 1 2 1", 2);
        sentence = "a SESSION upon another one begins where the MASTER of the STOP below it does, if that is there";
        after("keys:()", "caret 1", "begin:$1-${1:a}", "begin:.$2").shows("(.-.)").due("occurrence 2 0 0", 4)
            .go("begin:,,$3").due("occurrence 3 0 0", 8);
        sentence = "else the first OCCURRENCE of it";
        after("begin:${1:${2:a}}-${2/b}$2", "key 120", "nexts", "begin:.$3").shows("x-..").due("occurrence 3 0 0", 3);
        after("begin:a${1/u}${1/b}", "begin:.$2").due("occurrence 2 0 0", 2);

        sentence = "unlike: How many unlike (STOP, begin, bytes) there are ..; 0: no SESSION";
        after().due("unlike", 0).tells(1, 0);
        after("begin:$1$1$1").due("unlike", 1).go("key 97").due("unlike", 3);
        after("begin:$1$2").due("unlike", 2);
        after("begin:${1:${2:a}}").due("unlike", 2);
        after("begin:${1:a$1}").due("unlike", 2);
        after("begin:${1:$1a}").due("unlike", 2);
        after("begin:${1:$1}").due("unlike", 1);
        after("begin:${1:a$1}", "key 120").due("unlike", 1);

        sentence = "variableAt: Byte i of VARIABLE v; NONE. BAD (i below 0)";
        after("text:abcdefghijkl", "variable 3", "text:x", "variable 0").due("variableAt 3 0", 'a').due("variableAt 3 11", 'l')
            .due("variableAt 3 12", NONE).due("variableAt 0 0", 'x').due("variableAt 0 1", NONE).due("variableAt 0 " + MOST, NONE)
            .refuses("variableAt 0 -1", BAD).refuses("variableAt 0 " + LEAST, BAD).refuses("variableAt -1 0", BAD)
            .refuses("variableAt 4 0", BAD).refuses("variableAt " + LEAST + " 0", BAD).refuses("variableAt " + MOST + " 0", BAD);
    }

    // ---- what was

    private static void whatWas() {
        sentence = "back: A STATE back: how many can be yet. NO: none";
        after().refuses("back", NO);
        after("keys:ab").due("back", 1).shows("a").due("back", 0).shows("").refuses("back", NO);
        after("keys:ab", "back").due("key 99", 2).shows("ac").due("back", 1).shows("a");

        sentence = "told: How often refused: BAD (0), NO (1), FULL (2); bytes of THE TEXT (3), STATES (4). BAD";
        after("key 0", "key 1", "key 2", "rubs", "ends").due("told 0", 3).due("told 1", 2).due("told 2", 0).due("told 3", 0)
            .due("told 4", 0).refuses("told 5", BAD).refuses("told -1", BAD).refuses("told " + MOST, BAD).refuses("told " + LEAST, BAD)
            .due("told 0", 7);
        after("text:" + many("a", 120), "type 97", "type 97").due("told 2", 2).due("told 3", 120);
        filled(240).refuses("key 97", FULL).due("told 2", 1).due("told 4", 2).due("back", 1).due("told 2", 1);

        sentence = "digest: h = 1870; then h = 31 h + v for each v";
        after().due("digest", folded(0, 0, 0, 0, 0, 0, 0, 0, NONE, 0, 0));
        after("key 31", "back", "keys:az", "caret 1").due("digest", folded(1, 1, 0, 0, 3, 2, 1, 0, NONE, 0, 0, 'a', 'z'));
        long[] full = new long[11 + 240];
        long[] head = {0, 0, 1, 120, 2, 240, 240, 0, NONE, 0, 0};
        for (int i = 0; i < full.length; i++) {
            full[i] = i < head.length ? head[i] : 'a';
        }
        filled(240).refuses("key 97", FULL).due("digest", folded(full));
        sentence = "digest: if a SESSION is open, of each STOP 0 to 9 of the uppermost stop(0) to stop(4)";
        long[] lone = {0, 0, 0, 13, 1, 3, NONE, 1, 1, 1, 2, 'p', 'q', 'r', 0, 0, 0, 0, 0, 1, 0, 1, 1, 0, 1, 0, 1, 1, 0};
        after("begin:p${1:q}${2:r}").due("digest", folded(Arrays.copyOf(lone, 11 + 3 + 50)));
        long[] upon = {0, 0, 0, 13, 2, 2, NONE, 2, 1, 1, 2, 'p', 'x', 1, 0, 1, 1, 0, 1, 0, 0, 1, 2};
        after("begin:p${1:q}", "begin:${0:x}${1|,|}").due("digest", folded(Arrays.copyOf(upon, 11 + 2 + 50)));
    }

    private static long folded(long... values) {
        long h = 1870;
        for (long v : values) {
            h = 31 * h + v;
        }
        return h;
    }

    public static void main(String[] args) {
        theDocument();
        items();
        choices();
        rules();
        limits();
        masters();
        settings();
        longOnes();
        sessions();
        endings();
        states();
        order();
        told();
        keys();
        ways();
        looks();
        occurrences();
        whatWas();
        System.out.println(checks + " checks at the edges, " + wrong + " not as due");
        if (wrong != 0) {
            System.exit(1);
        }
    }
}
