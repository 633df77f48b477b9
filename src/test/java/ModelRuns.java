import java.util.ArrayDeque;
import java.util.ArrayList;
import java.util.HashSet;
import java.util.List;
import java.util.Random;
import java.util.Set;
import java.util.TreeSet;

/**
 * Random runs of calls, each answer held against a second, plain model of the
 * document that shares nothing with the class but the words of the document.
 * Arguments: how many runs (3000), the first seed (1).
 */
public final class ModelRuns {
    static final int NONE = -1, BAD = -2, NO = -3, FULL = -4, ENDED = -5;

    // ---- the model

    /** An item: shows its text, or is an occurrence if stop is not NONE. */
    static final class Item {
        String text = "";
        int stop = NONE;
        char kind = ' ';
        List<Item> inside = new ArrayList<>();
        List<String> choices = new ArrayList<>();
        String rule = "";
        Item parent;
    }

    static final class Fault extends Exception {
        private static final long serialVersionUID = 1L;
        final int place;

        Fault(int place) {
            this.place = place;
        }
    }

    static final class Parser {
        final String s;
        final String[] variables;
        int p = 0;
        int occurrences = 0;

        Parser(String s, String[] variables) {
            this.s = s;
            this.variables = variables;
        }

        char need() throws Fault {
            if (p >= s.length()) {
                throw new Fault(s.length());
            }
            char c = s.charAt(p);
            if (c < 32 || c > 126) {
                throw new Fault(p);
            }
            return c;
        }

        char take() throws Fault {
            char c = need();
            p++;
            return c;
        }

        List<Item> items(Item parent, int depth) throws Fault {
            List<Item> row = new ArrayList<>();
            while (true) {
                if (parent == null && p == s.length()) {
                    return row;
                }
                if (parent != null && need() == '}') {
                    p++;
                    return row;
                }
                Item item = item(depth);
                item.parent = parent;
                row.add(item);
            }
        }

        Item item(int depth) throws Fault {
            Item item = new Item();
            int begin = p;
            char c = take();
            if (c == '\\') {
                item.text = "" + take();
                return item;
            }
            if (c != '$') {
                item.text = "" + c;
                return item;
            }
            char d = take();
            if (d >= 'A' && d <= 'D') {
                item.text = variables[d - 'A'];
                return item;
            }
            if (d != '{' && !Character.isDigit(d)) {
                throw new Fault(p - 1);
            }
            if (++occurrences > 16) {
                throw new Fault(begin);
            }
            if (d != '{') {
                item.stop = d - '0';
                return item;
            }
            char n = take();
            if (!Character.isDigit(n)) {
                throw new Fault(p - 1);
            }
            item.stop = n - '0';
            item.kind = take();
            switch (item.kind) {
                case ':':
                    if (depth == 4) {
                        throw new Fault(p - 1);
                    }
                    item.inside = items(item, depth + 1);
                    break;
                case '|':
                    choices(item);
                    break;
                case '/':
                    rule(item);
                    break;
                default:
                    throw new Fault(p - 1);
            }
            return item;
        }

        void choices(Item item) throws Fault {
            StringBuilder one = new StringBuilder();
            while (true) {
                char c = take();
                if (c == '|') {
                    item.choices.add(one.toString());
                    if (take() != '}') {
                        throw new Fault(p - 1);
                    }
                    return;
                }
                if (c == ',') {
                    item.choices.add(one.toString());
                    one.setLength(0);
                    if (item.choices.size() == 9) {
                        throw new Fault(p - 1);
                    }
                } else if (c == '$') {
                    throw new Fault(p - 1);
                } else {
                    one.append(c == '\\' ? take() : c);
                }
            }
        }

        void rule(Item item) throws Fault {
            while (true) {
                char c = take();
                if (item.rule.length() == 2 && c != '}') {
                    throw new Fault(p - 1);
                }
                if (c == '}') {
                    if (item.rule.length() == 2 || item.rule.matches("[ulcb]")) {
                        return;
                    }
                    throw new Fault(p - 1);
                }
                if (c == '\\') {
                    throw new Fault(p - 1);
                }
                item.rule += c;
            }
        }
    }

    static final class Ses {
        List<Item> items;
        final List<Item> all = new ArrayList<>();
        final Item[] master = new Item[10];
        String[] set = new String[10];
        int at = NONE;
        boolean fresh;

        static Ses of(List<Item> items) {
            Ses s = new Ses();
            s.items = items;
            s.collect(items);
            for (Item o : s.all) {
                if ((o.kind == ':' || o.kind == '|') && s.there(o) && s.master[o.stop] == null) {
                    s.master[o.stop] = o;
                }
            }
            for (int n = 0; n < 10; n++) {
                if (s.master[n] == null) {
                    for (Item o : s.all) {
                        if (o.stop == n && o.rule.isEmpty() && s.there(o)) {
                            s.master[n] = o;
                            break;
                        }
                    }
                }
            }
            s.at = s.next(0);
            s.fresh = true;
            return s;
        }

        void collect(List<Item> row) {
            for (Item i : row) {
                if (i.stop != NONE) {
                    all.add(i);
                    collect(i.inside);
                }
            }
        }

        Ses copy() {
            Ses s = new Ses();
            s.items = items;
            s.all.addAll(all);
            System.arraycopy(master, 0, s.master, 0, 10);
            s.set = set.clone();
            s.at = at;
            s.fresh = fresh;
            return s;
        }

        boolean there(Item o) {
            Item p = o.parent;
            return p == null || master[p.stop] == p && set[p.stop] == null && there(p);
        }

        List<Item> thereOf(int n) {
            List<Item> found = new ArrayList<>();
            for (Item o : all) {
                if (o.stop == n && there(o)) {
                    found.add(o);
                }
            }
            return found;
        }

        int next(int n) {
            for (int m = n + 1; m <= 9; m++) {
                if (!thereOf(m).isEmpty()) {
                    return m;
                }
            }
            return NONE;
        }

        int prev(int n) {
            for (int m = n - 1; m >= 1; m--) {
                if (!thereOf(m).isEmpty()) {
                    return m;
                }
            }
            return NONE;
        }

        String hold(int n, Set<Integer> making) {
            if (set[n] != null) {
                return set[n];
            }
            Item m = master[n];
            if (m == null) {
                return "";
            }
            if (m.kind == '|') {
                return m.choices.get(0);
            }
            Set<Integer> more = new HashSet<>(making);
            more.add(n);
            return show(m.inside, more);
        }

        String show(List<Item> row, Set<Integer> making) {
            StringBuilder b = new StringBuilder();
            for (Item i : row) {
                b.append(show(i, making));
            }
            return b.toString();
        }

        String show(Item i, Set<Integer> making) {
            if (i.stop == NONE) {
                return i.text;
            }
            if (making.contains(i.stop)) {
                return "";
            }
            String h = hold(i.stop, making);
            return by(i.rule, h);
        }

        static String by(String rule, String h) {
            if (rule.length() == 2) {
                return h.replace(rule.charAt(0), rule.charAt(1));
            }
            switch (rule) {
                case "u":
                    return h.toUpperCase();
                case "l":
                    return h.toLowerCase();
                case "c":
                    return h.isEmpty() ? h : h.substring(0, 1).toUpperCase() + h.substring(1);
                case "b":
                    return new StringBuilder(h).reverse().toString();
                default:
                    return h;
            }
        }

        Set<Integer> enclosing(Item o) {
            Set<Integer> found = new HashSet<>();
            for (Item p = o.parent; p != null; p = p.parent) {
                found.add(p.stop);
            }
            return found;
        }

        int begin(Item o) {
            int place = o.parent == null ? 0 : begin(o.parent);
            for (Item i : o.parent == null ? items : o.parent.inside) {
                if (i == o) {
                    break;
                }
                place += show(i, enclosing(o)).length();
            }
            return place;
        }

        int length(Item o) {
            return show(o, enclosing(o)).length();
        }

        String shows() {
            return show(items, new HashSet<>());
        }

        String holds(int n) {
            return hold(n, new HashSet<>());
        }

        void setTo(int n, String text) {
            if (set[n] == null && master[n] != null) {
                String[] after = set.clone();
                for (int m = 0; m < 10; m++) {
                    Item i = master[m];
                    if (m != n && set[m] == null && i != null && there(i) && within(i, master[n])) {
                        after[m] = holds(m);
                        keptLong += after[m].length() > 240 ? 1 : 0;
                        longest = Math.max(longest, after[m].length());
                    }
                }
                set = after;
            }
            set[n] = text;
        }

        static boolean within(Item i, Item o) {
            return i.parent != null && (i.parent == o || within(i.parent, o));
        }

        int choices(int n) {
            return master[n] != null && there(master[n]) ? master[n].choices.size() : 0;
        }
    }

    static final class St {
        String ahead = "";
        String behind = "";
        String[] variables = {"", "", "", ""};
        List<Ses> sessions = new ArrayList<>();

        St copy() {
            St s = new St();
            s.ahead = ahead;
            s.behind = behind;
            s.variables = variables.clone();
            for (Ses x : sessions) {
                s.sessions.add(x.copy());
            }
            return s;
        }

        Ses top() {
            return sessions.isEmpty() ? null : sessions.get(sessions.size() - 1);
        }

        void sink() {
            for (int k = sessions.size() - 1; k > 0; k--) {
                String shown = sessions.get(k).shows();
                if (shown.length() > 240) {
                    return;
                }
                Ses below = sessions.get(k - 1);
                below.setTo(below.at, shown);
            }
        }

        String document() {
            for (int k = 1; k < sessions.size(); k++) {
                String shown = sessions.get(k).shows();
                if (shown.length() > 240) {
                    return shown;
                }
            }
            return ahead + (sessions.isEmpty() ? "" : sessions.get(0).shows()) + behind;
        }

        int beginOf(int k) {
            if (k == 0) {
                return ahead.length();
            }
            Ses below = sessions.get(k - 1);
            Item m = below.master[below.at];
            if (m == null || !below.there(m)) {
                m = below.thereOf(below.at).get(0);
            }
            return beginOf(k - 1) + below.begin(m);
        }

        void end() {
            Ses t = top();
            if (sessions.size() > 1) {
                String shown = t.shows();
                sessions.remove(sessions.size() - 1);
                top().setTo(top().at, shown);
                top().fresh = false;
                return;
            }
            String whole = document();
            List<Item> zeros = t.thereOf(0);
            int caret = ahead.length() + (zeros.isEmpty() ? t.shows().length() : t.begin(zeros.get(0)));
            sessions.clear();
            ahead = whole.substring(0, caret);
            behind = whole.substring(caret);
        }
    }

    static final class Model {
        String text = "";
        St now = new St();
        ArrayDeque<St> past = new ArrayDeque<>();
        int[] refused = new int[3];

        int refuse(int why) {
            refused[-2 - why]++;
            return why;
        }

        boolean keep(St next) {
            next.sink();
            if (next.document().length() > 240) {
                return false;
            }
            past.addLast(now);
            if (past.size() > 8) {
                past.removeFirst();
            }
            now = next;
            return true;
        }

        int type(int c) {
            if (c < 0 || c > 127) {
                return refuse(BAD);
            }
            if (text.length() == 120) {
                return refuse(FULL);
            }
            text += (char) c;
            return text.length();
        }

        int clear() {
            int had = text.length();
            text = "";
            return had;
        }

        int variable(int v) {
            if (v < 0 || v > 3 || !text.matches("[ -~]{0,12}")) {
                return refuse(BAD);
            }
            St s = now.copy();
            s.variables[v] = text;
            keep(s);
            return text.length();
        }

        int begins() {
            List<Item> items;
            try {
                items = new Parser(text, now.variables).items(null, 0);
            } catch (Fault f) {
                return -10 - f.place;
            }
            if (now.sessions.size() == 3) {
                return refuse(NO);
            }
            St s = now.copy();
            Ses t = Ses.of(items);
            s.sessions.add(t);
            s.sink();
            if (s.document().length() > 240) {
                return refuse(FULL);
            }
            int first = t.at;
            if (first == NONE) {
                s.end();
            }
            keep(s);
            return first == NONE ? ENDED : first;
        }

        int key(int c) {
            if (c < 32 || c > 126) {
                return refuse(BAD);
            }
            St s = now.copy();
            Ses t = s.top();
            if (t == null) {
                s.ahead += (char) c;
            } else {
                t.setTo(t.at, (t.fresh ? "" : t.holds(t.at)) + (char) c);
                t.fresh = false;
            }
            return keep(s) ? now.document().length() : refuse(FULL);
        }

        int rubs() {
            St s = now.copy();
            Ses t = s.top();
            String h = t == null ? s.ahead : t.holds(t.at);
            if (h.isEmpty()) {
                return refuse(NO);
            }
            String less = h.substring(0, h.length() - 1);
            if (t == null) {
                s.ahead = less;
            } else {
                t.setTo(t.at, t.fresh ? "" : less);
                t.fresh = false;
            }
            return keep(s) ? now.document().length() : refuse(FULL);
        }

        int nexts() {
            St s = now.copy();
            Ses t = s.top();
            if (t == null) {
                return refuse(NO);
            }
            int n = t.next(t.at);
            if (n == NONE) {
                s.end();
                keep(s);
                return ENDED;
            }
            t.at = n;
            t.fresh = true;
            keep(s);
            return n;
        }

        int prevs() {
            St s = now.copy();
            Ses t = s.top();
            if (t == null || t.prev(t.at) == NONE) {
                return refuse(NO);
            }
            t.at = t.prev(t.at);
            t.fresh = true;
            keep(s);
            return t.at;
        }

        int picks(int i) {
            if (i < 0) {
                return refuse(BAD);
            }
            St s = now.copy();
            Ses t = s.top();
            if (t == null || i >= t.choices(t.at)) {
                return refuse(NO);
            }
            t.setTo(t.at, t.master[t.at].choices.get(i));
            t.fresh = true;
            return keep(s) ? now.document().length() : refuse(FULL);
        }

        int ends() {
            St s = now.copy();
            if (s.top() == null) {
                return refuse(NO);
            }
            s.end();
            keep(s);
            return now.sessions.size();
        }

        int caret(int p) {
            String d = now.document();
            if (p < 0 || p > d.length()) {
                return refuse(BAD);
            }
            if (now.top() != null) {
                return refuse(NO);
            }
            int stood = now.ahead.length();
            St s = now.copy();
            s.ahead = d.substring(0, p);
            s.behind = d.substring(p);
            keep(s);
            return stood;
        }

        int cuts(int p, int n) {
            String d = now.document();
            if (p < 0 || n < 1 || (long) p + n > d.length()) {
                return refuse(BAD);
            }
            if (now.top() != null) {
                return refuse(NO);
            }
            int caret = now.ahead.length();
            int left = 0;
            StringBuilder b = new StringBuilder();
            for (int i = 0; i < d.length(); i++) {
                if (i < p || i >= p + n) {
                    b.append(d.charAt(i));
                    left += i < caret ? 1 : 0;
                }
            }
            St s = now.copy();
            s.ahead = b.substring(0, left);
            s.behind = b.substring(left);
            keep(s);
            return b.length();
        }

        static int byteOf(String s, int i) {
            return i < s.length() ? s.charAt(i) : NONE;
        }

        int at(int i) {
            return i < 0 ? refuse(BAD) : byteOf(now.document(), i);
        }

        int count(int what) {
            Ses t = now.top();
            switch (what) {
                case 0:
                    return now.document().length();
                case 1:
                    return t == null ? now.ahead.length() : NONE;
                case 2:
                    return now.sessions.size();
                case 3:
                    return t == null ? NONE : t.at;
                case 4:
                    return t != null && t.fresh ? 1 : 0;
                case 5:
                    int n = 0;
                    for (int m = 0; m < 10 && t != null; m++) {
                        n += t.thereOf(m).isEmpty() ? 0 : 1;
                    }
                    return n;
                default:
                    return refuse(BAD);
            }
        }

        int stop(int n, int what) {
            if (n < 0 || n > 9 || what < 0 || what > 4) {
                return refuse(BAD);
            }
            Ses t = now.top();
            if (t == null) {
                return refuse(NO);
            }
            int[] answers = {t.thereOf(n).isEmpty() ? 0 : 1, t.set[n] == null ? 0 : 1,
                what == 2 ? t.holds(n).length() : 0, t.thereOf(n).size(), t.choices(n)};
            return answers[what];
        }

        int held(int n, int i) {
            if (n < 0 || n > 9 || i < 0) {
                return refuse(BAD);
            }
            Ses t = now.top();
            return t == null ? refuse(NO) : byteOf(t.holds(n), i);
        }

        int choice(int n, int k, int i) {
            if (n < 0 || n > 9 || k < 0 || i < 0) {
                return refuse(BAD);
            }
            Ses t = now.top();
            if (t == null) {
                return refuse(NO);
            }
            return k < t.choices(n) ? byteOf(t.master[n].choices.get(k), i) : NONE;
        }

        int occurrence(int n, int j, int what) {
            if (n < 0 || n > 9 || j < 0 || what < 0 || what > 3) {
                return refuse(BAD);
            }
            Ses t = now.top();
            if (t == null) {
                return refuse(NO);
            }
            List<Item> row = t.thereOf(n);
            if (j >= row.size()) {
                return NONE;
            }
            Item o = row.get(j);
            switch (what) {
                case 0:
                    return now.beginOf(now.sessions.size() - 1) + t.begin(o);
                case 1:
                    return t.length(o);
                case 2:
                    return o.rule.length() == 2 ? 5 : o.rule.isEmpty() ? 0 : 1 + "ulcb".indexOf(o.rule);
                default:
                    return t.master[n] == o ? 1 : 0;
            }
        }

        int unlike() {
            Ses t = now.top();
            Set<String> seen = new TreeSet<>();
            for (int n = 0; n < 10 && t != null; n++) {
                for (Item o : t.thereOf(n)) {
                    seen.add(n + " " + t.begin(o) + " " + t.length(o));
                }
            }
            return seen.size();
        }

        int variableAt(int v, int i) {
            return v < 0 || v > 3 || i < 0 ? refuse(BAD) : byteOf(now.variables[v], i);
        }

        int back() {
            if (past.isEmpty()) {
                return refuse(NO);
            }
            now = past.removeLast();
            return past.size();
        }

        int told(int what) {
            if (what < 0 || what > 4) {
                return refuse(BAD);
            }
            return what < 3 ? refused[what] : what == 3 ? text.length() : past.size();
        }

        long digest() {
            long h = 1870;
            for (int i = 0; i < 5; i++) {
                h = 31 * h + told(i);
            }
            for (int i = 0; i < 6; i++) {
                h = 31 * h + count(i);
            }
            for (char c : now.document().toCharArray()) {
                h = 31 * h + c;
            }
            for (int n = 0; n < 10 && now.top() != null; n++) {
                for (int i = 0; i < 5; i++) {
                    h = 31 * h + stop(n, i);
                }
            }
            return h;
        }
    }

    // ---- the runs

    private final Random random;
    private final SnippetStops x = new SnippetStops();
    private final Model m = new Model();
    private final StringBuilder log = new StringBuilder();
    private int calls = 0;
    private boolean wrong = false;
    static int[] seen = new int[64];
    static int keptLong = 0;
    static int longest = 0;

    ModelRuns(long seed) {
        random = new Random(seed);
    }

    void due(String call, long got, long want) {
        calls++;
        log.append(call).append(" = ").append(got).append('\n');
        if (got != want) {
            wrong = true;
            log.append("  due is ").append(want).append('\n');
        }
        if (want < 0 && want > -140) {
            seen[(int) Math.min(63, -want)]++;
        }
    }

    int below(int n) {
        return random.nextInt(n);
    }

    String bytes(int most) {
        StringBuilder b = new StringBuilder();
        for (int i = below(most + 1); i > 0; i--) {
            b.append("abzABZ,|}: ~/-01".charAt(below(16)));
        }
        return b.toString();
    }

    String plain(String s, String escaped) {
        StringBuilder b = new StringBuilder();
        for (char c : s.toCharArray()) {
            if (escaped.indexOf(c) >= 0 || below(30) == 0) {
                b.append('\\');
            }
            b.append(c);
        }
        return b.toString();
    }

    /** Few stops, so that they meet often. */
    int someStop() {
        return below(8) == 0 ? below(10) : below(5);
    }

    String items(int depth, int most) {
        StringBuilder b = new StringBuilder();
        for (int i = below(most + 1); i > 0; i--) {
            b.append(item(depth));
        }
        return b.toString();
    }

    String item(int depth) {
        int n = someStop();
        switch (below(10)) {
            case 0:
            case 1:
                return plain(bytes(3), depth > 0 ? "$\\}" : "$\\");
            case 2:
                return "$" + (char) ('A' + below(4));
            case 3:
            case 4:
                return "$" + n;
            case 5:
            case 6:
            case 7:
                return depth > (below(20) == 0 ? 5 : 3) ? "$" + n : "${" + n + ":" + items(depth + 1, 4) + "}";
            case 8:
                StringBuilder b = new StringBuilder("${" + n + "|");
                for (int i = below(below(8) == 0 ? 11 : 4); i > 0; i--) {
                    b.append(plain(bytes(2), "$\\,|")).append(',');
                }
                return b.append("|}").toString();
            default:
                return "${" + n + "/" + rule() + "}";
        }
    }

    String rule() {
        return below(3) == 0 ? "" + "abzAu,$".charAt(below(7)) + "abzB}l\\".charAt(below(5)) : "" + "ulcb".charAt(below(4));
    }

    String template() {
        StringBuilder b = new StringBuilder();
        int most = 1 + below(below(4) == 0 ? 110 : 40);
        for (int i = 0; i < 40; i++) {
            String more = item(0);
            if (b.length() + more.length() <= most) {
                b.append(more);
            }
        }
        if (below(12) == 0 && b.length() > 0) {
            b.deleteCharAt(below(b.length()));
        }
        if (below(12) == 0) {
            b.insert(below(b.length() + 1), (char) (below(3) == 0 ? below(128) : "${}\\|,:/$0A".charAt(below(11))));
        }
        if (below(25) == 0) {
            b.setLength(below(b.length() + 1));
        }
        return b.toString();
    }

    String mirrors(int n) {
        StringBuilder b = new StringBuilder();
        for (int i = below(5); i > 0; i--) {
            b.append(below(6) == 0 ? "${" + n + "/" + rule() + "}" : "$" + n);
        }
        return b.toString();
    }

    /** Stops within one another that show one another: they hold far more than is shown. */
    String deep() {
        List<Integer> stops = new ArrayList<>(List.of(0, 1, 2, 3, 4, 5, 6, 7, 8, 9));
        int[] n = new int[5];
        for (int i = 0; i < n.length; i++) {
            n[i] = stops.remove(below(stops.size()));
        }
        String last = "${" + n[4] + ":" + mirrors(n[below(2)]) + "}";
        boolean beside = below(3) > 0;
        String inner = "${" + n[3] + ":" + mirrors(n[4]) + (beside ? "}" + last : last + "}");
        return "${" + n[0] + ":" + "$A".repeat(below(20)) + "${" + n[1] + ":" + mirrors(n[2]) + "${" + n[2] + ":"
            + mirrors(n[3]) + inner + "}}}" + (below(3) == 0 ? mirrors(n[below(5)]) : "");
    }

    void tellDeep() {
        tell("abcdefghijkl".substring(below(3) == 0 ? below(12) : 0));
        due("variable(0)", x.variable(0), m.variable(0));
        tell(deep());
        for (int i = below(3); i >= 0; i--) {
            due("begins()", x.begins(), m.begins());
        }
    }

    void tell(String s) {
        due("clear()", x.clear(), m.clear());
        for (char c : s.toCharArray()) {
            due("type(" + (int) c + ")", x.type(c), m.type(c));
        }
    }

    void change() {
        int c = 32 + below(95);
        switch (below(21)) {
            case 0:
            case 1:
            case 2:
            case 3:
            case 4:
                due("key(" + c + ")", x.key(c), m.key(c));
                break;
            case 5:
            case 6:
                due("rubs()", x.rubs(), m.rubs());
                break;
            case 7:
            case 8:
            case 9:
                due("nexts()", x.nexts(), m.nexts());
                break;
            case 10:
            case 11:
                due("prevs()", x.prevs(), m.prevs());
                break;
            case 12:
            case 13:
                int i = below(5) - (below(6) == 0 ? 1 : 0);
                due("picks(" + i + ")", x.picks(i), m.picks(i));
                break;
            case 14:
                if (below(3) == 0) {
                    due("ends()", x.ends(), m.ends());
                }
                break;
            case 15:
                int p = below(m.now.document().length() + 3) - 1;
                due("caret(" + p + ")", x.caret(p), m.caret(p));
                break;
            case 16:
                int q = below(m.now.document().length() + 2) - 1;
                int n = below(20) == 0 ? Integer.MAX_VALUE : below(30) - 1;
                due("cuts(" + q + ", " + n + ")", x.cuts(q, n), m.cuts(q, n));
                break;
            case 17:
            case 18:
                if (below(2) == 0) {
                    due("back()", x.back(), m.back());
                }
                break;
            case 19:
                int v = below(6) - 1;
                due("variable(" + v + ")", x.variable(v), m.variable(v));
                break;
            default:
                due("begins()", x.begins(), m.begins());
                break;
        }
    }

    void look() {
        int n = below(12) - 1;
        int i = below(5) - (below(4) == 0 ? 1 : 0);
        int k = below(5) - (below(4) == 0 ? 1 : 0);
        int w = below(7) - 1;
        switch (below(11)) {
            case 0:
                int p = below(m.now.document().length() + 3) - 1;
                due("at(" + p + ")", x.at(p), m.at(p));
                break;
            case 1:
                due("count(" + w + ")", x.count(w), m.count(w));
                break;
            case 2:
                due("stop(" + n + ", " + w + ")", x.stop(n, w), m.stop(n, w));
                break;
            case 3:
                due("held(" + n + ", " + i + ")", x.held(n, i), m.held(n, i));
                break;
            case 4:
                int far = below(2) == 0 ? below(300) : below(30000);
                due("held(" + n + ", " + far + ")", x.held(n, far), m.held(n, far));
                break;
            case 5:
                due("choice(" + n + ", " + k + ", " + i + ")", x.choice(n, k, i), m.choice(n, k, i));
                break;
            case 6:
            case 7:
                due("occurrence(" + n + ", " + k + ", " + w + ")", x.occurrence(n, k, w), m.occurrence(n, k, w));
                break;
            case 8:
                due("unlike()", x.unlike(), m.unlike());
                break;
            case 9:
                due("variableAt(" + w + ", " + i + ")", x.variableAt(w, i), m.variableAt(w, i));
                break;
            default:
                due("told(" + w + ")", x.told(w), m.told(w));
                break;
        }
    }

    /** All that can be seen, now and then. */
    void lookAtAll() {
        due("digest()", x.digest(), m.digest());
        due("unlike()", x.unlike(), m.unlike());
        for (int n = 0; n < 10; n++) {
            for (int j = 0; j < 4; j++) {
                for (int w = 0; w < 4; w++) {
                    due("occurrence(" + n + ", " + j + ", " + w + ")", x.occurrence(n, j, w), m.occurrence(n, j, w));
                }
            }
            for (int i = 0; i < 3; i++) {
                due("held(" + n + ", " + i + ")", x.held(n, i), m.held(n, i));
            }
        }
    }

    boolean run(int most) {
        for (int i = 0; i < most && calls < most && !wrong; i++) {
            if (below(12) == 0) {
                tell(below(5) == 0 ? bytes(13) : template());
                due("begins()", x.begins(), m.begins());
            } else if (below(100) == 0) {
                tellDeep();
            } else if (below(120) == 0) {
                lookAtAll();
            } else if (below(3) == 0) {
                look();
            } else {
                change();
            }
            if (below(4) == 0) {
                due("digest()", x.digest(), m.digest());
            }
        }
        return !wrong;
    }

    public static void main(String[] args) {
        int runs = args.length > 0 ? Integer.parseInt(args[0]) : 3000;
        int first = args.length > 1 ? Integer.parseInt(args[1]) : 1;
        for (int seed = first; seed < first + runs; seed++) {
            ModelRuns r = new ModelRuns(seed);
            if (!r.run(1500)) {
                System.out.println("seed " + seed + ":\n" + r.log);
                System.exit(1);
            }
        }
        System.out.println(runs + " random runs are as the model's; seen NONE " + seen[1] + ", BAD " + seen[2]
            + ", NO " + seen[3] + ", FULL " + seen[4] + ", ENDED " + seen[5] + "; SET to more than 240 bytes " + keptLong
            + " times, to " + longest + " at most");
    }
}
