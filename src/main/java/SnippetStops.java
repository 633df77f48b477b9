/**
 * Snippets in an editor: templates whose stops are gone through in a session,
 * sessions upon one another, and a way back. DOC.md has the promises; words in
 * capitals there are meant in the same way here.
 */
public final class SnippetStops {
    public static final int NONE = -1, BAD = -2, NO = -3, FULL = -4, ENDED = -5;

    private static final int MOST_BYTES = 240;
    private static final int MOST_TEXT = 120;
    private static final int MOST_IN_VARIABLE = 12;
    private static final int VARIABLES = 4;
    private static final int STOPS = 10;
    private static final int MOST_OCCURRENCES = 16;
    private static final int MOST_CHOICES = 9;
    private static final int MOST_DEEP = 4;
    private static final int MOST_SESSIONS = 3;
    private static final int MOST_STATES = 8;
    private static final int FIRST_FAULT = -10;

    // One byte more than THE DOCUMENT may have, so that too many can be seen.
    private static final int SHOWN_ROOM = MOST_BYTES + 1;
    // A TEMPLATE of nothing but VARIABLES: 60 of 12 bytes.
    private static final int CODES_ROOM = 1024;
    // A STOP may HOLD more than THE DOCUMENT shows of it: within others, what it
    // HOLDS by way of them is not shown. Each byte of the 240 comes at most 162
    // times: the ways through 14 OCCURRENCES are most where they branch by threes.
    private static final int HELD_ROOM = 65536;

    private static final int NO_RULE = 0;
    private static final int UPPER = 1;
    private static final int LOWER = 2;
    private static final int CAPITAL = 3;
    private static final int BACKWARDS = 4;
    private static final int SWAP = 5;

    private final Row text = new Row(MOST_TEXT);
    private final Row looked = new Row(HELD_ROOM);
    private final State[] past = new State[MOST_STATES];
    private int pastCount = 0;
    private State now;
    private State draft;
    private int badCount = 0;
    private int noCount = 0;
    private int fullCount = 0;

    public SnippetStops() {
        Template blank = new Template();
        now = new State(blank);
        draft = new State(blank);
        for (int i = 0; i < past.length; i++) {
            past[i] = new State(blank);
        }
    }

    // ---- told

    public int type(int c) {
        if (c < 0 || c > 127) {
            return refuse(BAD);
        }
        if (text.size() >= MOST_TEXT) {
            return refuse(FULL);
        }
        text.add(c);
        return text.size();
    }

    public int clear() {
        int had = text.size();
        text.empty();
        return had;
    }

    public int variable(int v) {
        if (!isVariable(v) || !canBeVariable(text)) {
            return refuse(BAD);
        }
        draft.copyOf(now);
        draft.variables[v].copyOf(text);
        return lands() ? text.size() : refuse(FULL);
    }

    public int begins() {
        Reader reader = new Reader(text, now.variables);
        int fault = reader.read();
        if (fault != NONE) {
            return FIRST_FAULT - fault;
        }
        if (now.open >= MOST_SESSIONS) {
            return refuse(NO);
        }
        draft.copyOf(now);
        int first = draft.openSession(reader.template);
        if (!draft.settle()) {
            return refuse(FULL);
        }
        if (first == NONE) {
            draft.endUppermost();
        }
        if (!lands()) {
            return refuse(FULL);
        }
        return first == NONE ? ENDED : first;
    }

    // ---- keys

    public int key(int c) {
        if (!isShown(c)) {
            return refuse(BAD);
        }
        draft.copyOf(now);
        Session top = draft.uppermost();
        if (top == null) {
            draft.insertAtCaret(c);
        } else {
            top.addTyped(c);
        }
        return lands() ? now.shown.size() : refuse(FULL);
    }

    public int rubs() {
        Session top = now.uppermost();
        if (top == null ? now.caret == 0 : heldBy(top, top.stop).size() == 0) {
            return refuse(NO);
        }
        draft.copyOf(now);
        top = draft.uppermost();
        if (top == null) {
            draft.removeBytes(draft.caret - 1, 1);
        } else {
            top.rubOut();
        }
        return lands() ? now.shown.size() : refuse(FULL);
    }

    public int nexts() {
        Session top = now.uppermost();
        if (top == null) {
            return refuse(NO);
        }
        int next = top.leastAbove(top.stop);
        draft.copyOf(now);
        if (next == NONE) {
            draft.endUppermost();
            return lands() ? ENDED : refuse(FULL);
        }
        draft.comeTo(next);
        return lands() ? next : refuse(FULL);
    }

    public int prevs() {
        Session top = now.uppermost();
        int before = top == null ? NONE : top.greatestBelow(top.stop);
        if (before == NONE) {
            return refuse(NO);
        }
        draft.copyOf(now);
        draft.comeTo(before);
        return lands() ? before : refuse(FULL);
    }

    public int picks(int i) {
        if (i < 0) {
            return refuse(BAD);
        }
        Session top = now.uppermost();
        if (top == null || i >= top.choicesThere(top.stop)) {
            return refuse(NO);
        }
        draft.copyOf(now);
        top = draft.uppermost();
        if (top != null) {
            top.pick(i);
        }
        return lands() ? now.shown.size() : refuse(FULL);
    }

    public int ends() {
        if (now.open == 0) {
            return refuse(NO);
        }
        draft.copyOf(now);
        draft.endUppermost();
        return lands() ? now.open : refuse(FULL);
    }

    public int caret(int p) {
        if (p < 0 || p > now.shown.size()) {
            return refuse(BAD);
        }
        if (now.open > 0) {
            return refuse(NO);
        }
        int stood = now.caret;
        draft.copyOf(now);
        draft.caret = p;
        return lands() ? stood : refuse(FULL);
    }

    public int cuts(int p, int n) {
        int size = now.shown.size();
        if (p < 0 || p > size || n < 1 || n > size - p) {
            return refuse(BAD);
        }
        if (now.open > 0) {
            return refuse(NO);
        }
        draft.copyOf(now);
        draft.removeBytes(p, n);
        return lands() ? now.shown.size() : refuse(FULL);
    }

    // ---- shown

    public int at(int i) {
        return i < 0 ? refuse(BAD) : now.shown.get(i);
    }

    public int count(int what) {
        Session top = now.uppermost();
        switch (what) {
            case 0:
                return now.shown.size();
            case 1:
                return top == null ? now.caret : NONE;
            case 2:
                return now.open;
            case 3:
                return top == null ? NONE : top.stop;
            case 4:
                return top != null && top.fresh ? 1 : 0;
            case 5:
                return top == null ? 0 : top.stopsThere();
            default:
                return refuse(BAD);
        }
    }

    public int stop(int n, int what) {
        if (!isStop(n) || what < 0 || what > 4) {
            return refuse(BAD);
        }
        Session top = now.uppermost();
        if (top == null) {
            return refuse(NO);
        }
        switch (what) {
            case 0:
                return top.occurrencesThere(n) > 0 ? 1 : 0;
            case 1:
                return top.isSet(n) ? 1 : 0;
            case 2:
                return heldBy(top, n).size();
            case 3:
                return top.occurrencesThere(n);
            default:
                return top.choicesThere(n);
        }
    }

    public int held(int n, int i) {
        if (!isStop(n) || i < 0) {
            return refuse(BAD);
        }
        Session top = now.uppermost();
        return top == null ? refuse(NO) : heldBy(top, n).get(i);
    }

    public int choice(int n, int k, int i) {
        if (!isStop(n) || k < 0 || i < 0) {
            return refuse(BAD);
        }
        Session top = now.uppermost();
        if (top == null) {
            return refuse(NO);
        }
        looked.empty();
        if (k < top.choicesThere(n)) {
            top.template.putChoice(n, k, looked);
        }
        return looked.get(i);
    }

    public int occurrence(int n, int j, int what) {
        if (!isStop(n) || j < 0 || what < 0 || what > 3) {
            return refuse(BAD);
        }
        Session top = now.uppermost();
        if (top == null) {
            return refuse(NO);
        }
        Occurrence o = top.findThere(n, j);
        if (o == null) {
            return NONE;
        }
        switch (what) {
            case 0:
                return now.beginOfUppermost() + top.beginOf(o);
            case 1:
                return top.lengthOf(o);
            case 2:
                return o.rule;
            default:
                return top.template.isMaster(o) ? 1 : 0;
        }
    }

    public int unlike() {
        Session top = now.uppermost();
        return top == null ? 0 : top.unlikePlaces();
    }

    public int variableAt(int v, int i) {
        return !isVariable(v) || i < 0 ? refuse(BAD) : now.variables[v].get(i);
    }

    // ---- what was

    public int back() {
        if (pastCount <= 0 || pastCount > past.length) {
            return refuse(NO);
        }
        pastCount--;
        State was = past[pastCount];
        past[pastCount] = now;
        now = was;
        return pastCount;
    }

    public int told(int what) {
        switch (what) {
            case 0:
                return badCount;
            case 1:
                return noCount;
            case 2:
                return fullCount;
            case 3:
                return text.size();
            case 4:
                return pastCount;
            default:
                return refuse(BAD);
        }
    }

    public long digest() {
        long h = 1870;
        for (int what = 0; what <= 4; what++) {
            h = 31 * h + told(what);
        }
        for (int what = 0; what <= 5; what++) {
            h = 31 * h + count(what);
        }
        for (int i = 0; i < now.shown.size(); i++) {
            h = 31 * h + now.shown.get(i);
        }
        if (now.open > 0) {
            for (int n = 0; n < STOPS; n++) {
                for (int what = 0; what <= 4; what++) {
                    h = 31 * h + stop(n, what);
                }
            }
        }
        return h;
    }

    private int refuse(int why) {
        if (why == BAD) {
            badCount++;
        } else if (why == NO) {
            noCount++;
        } else if (why == FULL) {
            fullCount++;
        }
        return why;
    }

    /**
     * The draft becomes what is now, if THE DOCUMENT has room for it. States are
     * handed around rather than made, since nothing that is made is given back.
     */
    private boolean lands() {
        if (!draft.settle()) {
            return false;
        }
        State free = past[0];
        if (pastCount < past.length) {
            free = past[pastCount];
            past[pastCount] = now;
            pastCount++;
        } else {
            for (int i = 1; i < past.length; i++) {
                past[i - 1] = past[i];
            }
            past[past.length - 1] = now;
        }
        now = draft;
        draft = free;
        return true;
    }

    private Row heldBy(Session session, int n) {
        looked.empty();
        session.putHeld(n, looked);
        return looked;
    }

    private static boolean isShown(int b) {
        return b >= 32 && b <= 126;
    }

    private static boolean isDigit(int b) {
        return b >= '0' && b <= '9';
    }

    private static boolean isStop(int n) {
        return n >= 0 && n < STOPS;
    }

    private static boolean isVariable(int v) {
        return v >= 0 && v < VARIABLES;
    }

    private static boolean canBeVariable(Row row) {
        if (row.size() > MOST_IN_VARIABLE) {
            return false;
        }
        for (int i = 0; i < row.size(); i++) {
            if (!isShown(row.get(i))) {
                return false;
            }
        }
        return true;
    }

    /** Bytes in a row that grows as it must; what is put beyond its room is lost. */
    private static final class Row {
        private final int room;
        private byte[] bytes = new byte[0];
        private int size = 0;

        Row(int room) {
            this.room = room;
        }

        int size() {
            return size;
        }

        int get(int i) {
            return i < 0 || i >= size ? NONE : bytes[i] & 255;
        }

        void put(int i, int b) {
            if (i >= 0 && i < size) {
                bytes[i] = (byte) b;
            }
        }

        void empty() {
            size = 0;
        }

        void add(int b) {
            if (size < room) {
                widen(size + 1);
                size++;
                put(size - 1, b);
            }
        }

        void addPart(Row from, int begin, int end) {
            int n = Math.min(end - begin, room - size);
            if (n <= 0 || begin < 0 || end > from.size) {
                return;
            }
            widen(size + n);
            System.arraycopy(from.bytes, begin, bytes, size, n);
            size += n;
        }

        void copyOf(Row from) {
            size = 0;
            addPart(from, 0, from.size);
        }

        void insert(int place, int b) {
            if (place < 0 || place > size || size >= room) {
                return;
            }
            add(b);
            for (int i = size - 1; i > place; i--) {
                put(i, get(i - 1));
            }
            put(place, b);
        }

        void remove(int place, int n) {
            if (place < 0 || n < 0 || place > size || n > size - place) {
                return;
            }
            for (int i = place + n; i < size; i++) {
                put(i - n, get(i));
            }
            size -= n;
        }

        void reverseFrom(int begin) {
            int left = begin;
            for (int right = size - 1; right > left; right--) {
                int b = get(left);
                put(left, get(right));
                put(right, b);
                left++;
            }
        }

        private void widen(int wanted) {
            if (wanted <= bytes.length || wanted > room) {
                return;
            }
            int length = bytes.length < 8 ? 16 : 2 * bytes.length;
            if (length < wanted) {
                length = wanted;
            }
            if (length > room) {
                length = room;
            }
            byte[] wider = new byte[length];
            for (int i = 0; i < size; i++) {
                wider[i] = bytes[i];
            }
            bytes = wider;
        }
    }

    /** An OCCURRENCE as it stands in its TEMPLATE. */
    private static final class Occurrence {
        final int index;
        final int stop;
        /** The one whose DEFAULT it stands in; null at the outside. */
        final Occurrence outer;
        boolean hasDefault = false;
        int choices = 0;
        /** Where the codes of its DEFAULT or CHOICES are. */
        int begin;
        int end;
        int rule = NO_RULE;
        int swapped = 0;
        int swappedTo = 0;

        Occurrence(int index, int stop, Occurrence outer, int begin) {
            this.index = index;
            this.stop = stop;
            this.outer = outer;
            this.begin = begin;
            this.end = begin;
        }

        boolean isWithin(Occurrence other) {
            for (Occurrence o = outer; o != null; o = o.outer) {
                if (o == other) {
                    return true;
                }
            }
            return false;
        }

        void changeByRule(Row row, int begin) {
            if (rule == BACKWARDS) {
                row.reverseFrom(begin);
                return;
            }
            int end = row.size();
            if (rule == NO_RULE) {
                end = begin;
            } else if (rule == CAPITAL && end > begin) {
                end = begin + 1;
            }
            for (int i = begin; i < end; i++) {
                row.put(i, changed(row.get(i)));
            }
        }

        private int changed(int b) {
            switch (rule) {
                case UPPER:
                case CAPITAL:
                    return b >= 'a' && b <= 'z' ? b - 32 : b;
                case LOWER:
                    return b >= 'A' && b <= 'Z' ? b + 32 : b;
                case SWAP:
                    return b == swapped ? swappedTo : b;
                default:
                    return b;
            }
        }
    }

    /**
     * A TEMPLATE that was read. Its codes: a byte to show as itself, FIRST + i for
     * OCCURRENCE i, behind which the codes within it stand. It never changes once
     * it is read, so all states can share it.
     */
    private static final class Template {
        private static final int FIRST = 128;
        private static final int COMMA = 0;

        final Row codes = new Row(CODES_ROOM);
        private final Occurrence[] occurrences = new Occurrence[MOST_OCCURRENCES];
        private int occurrenceCount = 0;
        private final Occurrence[] masters = new Occurrence[STOPS];

        int size() {
            return occurrenceCount;
        }

        boolean isFull() {
            return occurrenceCount >= occurrences.length;
        }

        Occurrence get(int i) {
            return i < 0 || i >= occurrenceCount ? null : occurrences[i];
        }

        Occurrence fromCode(int code) {
            return get(code - FIRST);
        }

        Occurrence masterOf(int n) {
            return isStop(n) ? masters[n] : null;
        }

        boolean isMaster(Occurrence o) {
            return isStop(o.stop) && masters[o.stop] == o;
        }

        /** Null if there is no room. */
        Occurrence addOccurrence(int n, Occurrence outer) {
            if (isFull()) {
                return null;
            }
            codes.add(FIRST + occurrenceCount);
            Occurrence o = new Occurrence(occurrenceCount, n, outer, codes.size());
            occurrences[occurrenceCount] = o;
            occurrenceCount++;
            return o;
        }

        /** Outer ones stand ahead of those within them, so one way through settles all. */
        void settleMasters() {
            for (int i = 0; i < occurrenceCount; i++) {
                Occurrence o = occurrences[i];
                if (o != null && (o.hasDefault || o.choices > 0)) {
                    offerMaster(o);
                }
            }
            for (int i = 0; i < occurrenceCount; i++) {
                Occurrence o = occurrences[i];
                if (o != null && o.rule == NO_RULE) {
                    offerMaster(o);
                }
            }
        }

        private void offerMaster(Occurrence o) {
            if (isStop(o.stop) && masters[o.stop] == null && isThereAtFirst(o)) {
                masters[o.stop] = o;
            }
        }

        private boolean isThereAtFirst(Occurrence o) {
            for (Occurrence outer = o.outer; outer != null; outer = outer.outer) {
                if (!isMaster(outer)) {
                    return false;
                }
            }
            return true;
        }

        void putChoice(int n, int k, Row out) {
            Occurrence master = masterOf(n);
            if (master == null || master.choices == 0) {
                return;
            }
            int commas = 0;
            for (int i = master.begin; i < master.end; i++) {
                int code = codes.get(i);
                if (code == COMMA) {
                    commas++;
                } else if (commas == k) {
                    out.add(code);
                }
            }
        }
    }

    /**
     * Reads THE TEXT as a TEMPLATE, byte by byte: the mode says what may stand
     * next, so the FAULT is the first byte that the mode does not take.
     */
    private static final class Reader {
        private static final int ITEM = 0;
        private static final int ESCAPED = 1;
        private static final int BEHIND_DOLLAR = 2;
        private static final int NUMBER = 3;
        private static final int KIND = 4;
        private static final int CHOICE = 5;
        private static final int ESCAPED_IN_CHOICE = 6;
        private static final int RULE = 7;
        private static final int BEHIND_RULE = 8;
        private static final int CLOSING = 9;

        final Template template = new Template();
        private final Row text;
        private final Row[] variables;
        private int mode = ITEM;
        private int place = 0;
        private int fault = NONE;
        private int number = 0;
        /** The OCCURRENCE that was read last. */
        private Occurrence latest = null;
        /** The OCCURRENCE whose DEFAULT is being read; null: none. */
        private Occurrence within = null;
        private int deep = 0;

        Reader(Row text, Row[] variables) {
            this.text = text;
            this.variables = variables;
        }

        /** The FAULT, or NONE. */
        int read() {
            for (int i = 0; i < text.size() && fault == NONE; i++) {
                place = i;
                take(text.get(i));
            }
            if (fault == NONE && (mode != ITEM || within != null)) {
                fault = text.size();
            }
            if (fault == NONE) {
                template.settleMasters();
            }
            return fault;
        }

        private void take(int b) {
            if (!isShown(b)) {
                fault = place;
                return;
            }
            switch (mode) {
                case ITEM:
                    takeItem(b);
                    break;
                case BEHIND_DOLLAR:
                    takeBehindDollar(b);
                    break;
                case NUMBER:
                    takeNumber(b);
                    break;
                case KIND:
                    takeKind(b);
                    break;
                case CHOICE:
                    takeInChoice(b);
                    break;
                case RULE:
                    takeRule(b);
                    break;
                case BEHIND_RULE:
                    takeBehindRule(b);
                    break;
                case CLOSING:
                    takeClosing(b);
                    break;
                default:
                    template.codes.add(b);
                    mode = mode == ESCAPED_IN_CHOICE ? CHOICE : ITEM;
                    break;
            }
        }

        private void takeItem(int b) {
            if (b == '$') {
                mode = BEHIND_DOLLAR;
            } else if (b == '\\') {
                mode = ESCAPED;
            } else if (b == '}' && within != null) {
                within.end = template.codes.size();
                within = within.outer;
                deep--;
            } else {
                template.codes.add(b);
            }
        }

        private void takeBehindDollar(int b) {
            if (b >= 'A' && b - 'A' < variables.length) {
                Row variable = variables[b - 'A'];
                template.codes.addPart(variable, 0, variable.size());
                mode = ITEM;
            } else if (b != '{' && !isDigit(b)) {
                fault = place;
            } else if (template.isFull()) {
                fault = place - 1;
            } else if (b == '{') {
                mode = NUMBER;
            } else {
                template.addOccurrence(b - '0', within);
                mode = ITEM;
            }
        }

        private void takeNumber(int b) {
            if (isDigit(b)) {
                number = b - '0';
                mode = KIND;
            } else {
                fault = place;
            }
        }

        private void takeKind(int b) {
            boolean tooDeep = b == ':' && deep >= MOST_DEEP;
            if (b != ':' && b != '|' && b != '/' || tooDeep) {
                fault = place;
                return;
            }
            latest = template.addOccurrence(number, within);
            if (latest == null) {
                return;
            }
            if (b == ':') {
                latest.hasDefault = true;
                within = latest;
                deep++;
                mode = ITEM;
            } else if (b == '|') {
                latest.choices = 1;
                mode = CHOICE;
            } else {
                mode = RULE;
            }
        }

        private void takeInChoice(int b) {
            if (latest == null || b == '$' || b == ',' && latest.choices >= MOST_CHOICES) {
                fault = place;
            } else if (b == '\\') {
                mode = ESCAPED_IN_CHOICE;
            } else if (b == ',') {
                latest.choices++;
                template.codes.add(Template.COMMA);
            } else if (b == '|') {
                latest.end = template.codes.size();
                mode = CLOSING;
            } else {
                template.codes.add(b);
            }
        }

        private void takeRule(int b) {
            if (latest == null || !canBeInRule(b)) {
                fault = place;
                return;
            }
            latest.swapped = b;
            mode = BEHIND_RULE;
        }

        /** Only here is it seen whether a letter was a RULE's name or its x. */
        private void takeBehindRule(int b) {
            if (latest == null) {
                fault = place;
            } else if (b == '}' && namedRule(latest.swapped) != NO_RULE) {
                latest.rule = namedRule(latest.swapped);
                mode = ITEM;
            } else if (canBeInRule(b)) {
                latest.rule = SWAP;
                latest.swappedTo = b;
                mode = CLOSING;
            } else {
                fault = place;
            }
        }

        private void takeClosing(int b) {
            if (b == '}') {
                mode = ITEM;
            } else {
                fault = place;
            }
        }

        private static boolean canBeInRule(int b) {
            return b != '}' && b != '\\';
        }

        private static int namedRule(int b) {
            switch (b) {
                case 'u':
                    return UPPER;
                case 'l':
                    return LOWER;
                case 'c':
                    return CAPITAL;
                case 'b':
                    return BACKWARDS;
                default:
                    return NO_RULE;
            }
        }
    }

    /** A SESSION: a TEMPLATE, what its STOPS are SET to, and which one it is at. */
    private static final class Session {
        Template template;
        int stop = NONE;
        boolean fresh = false;
        private final boolean[] set = new boolean[STOPS];
        private final Row[] setTo = new Row[STOPS];
        /**
         * Of a STOP that was SET to more than THE DOCUMENT can show (so it is THERE no
         * more): this SESSION ahead of that. Such a text is made up again rather than
         * written out, as the states would hold megabytes of them. Null: setTo has it.
         */
        private final Session[] before = new Session[STOPS];
        /** Where each OCCURRENCE that is there came to stand when all was laid out. */
        private final int[] begins = new int[MOST_OCCURRENCES];
        private final int[] lengths = new int[MOST_OCCURRENCES];

        Session(Template blank) {
            template = blank;
            for (int n = 0; n < setTo.length; n++) {
                setTo[n] = new Row(SHOWN_ROOM);
            }
        }

        /** Not where the OCCURRENCES stand: laying out tells it anew. */
        void copyOf(Session other) {
            template = other.template;
            stop = other.stop;
            fresh = other.fresh;
            for (int n = 0; n < STOPS; n++) {
                set[n] = other.set[n];
                before[n] = other.before[n];
                if (set[n]) {
                    setTo[n].copyOf(other.setTo[n]);
                }
            }
        }

        void begin(Template begun) {
            template = begun;
            for (int n = 0; n < STOPS; n++) {
                set[n] = false;
                before[n] = null;
            }
            comeTo(leastAbove(0));
        }

        void comeTo(int n) {
            stop = n;
            fresh = true;
        }

        boolean isSet(int n) {
            return isStop(n) && set[n];
        }

        boolean isThere(Occurrence o) {
            for (Occurrence outer = o.outer; outer != null; outer = outer.outer) {
                if (!template.isMaster(outer) || isSet(outer.stop)) {
                    return false;
                }
            }
            return true;
        }

        Occurrence findThere(int n, int j) {
            int seen = 0;
            for (int i = 0; i < template.size(); i++) {
                Occurrence o = template.get(i);
                if (o != null && o.stop == n && isThere(o)) {
                    if (seen == j) {
                        return o;
                    }
                    seen++;
                }
            }
            return null;
        }

        int occurrencesThere(int n) {
            int seen = 0;
            for (int i = 0; i < template.size(); i++) {
                Occurrence o = template.get(i);
                if (o != null && o.stop == n && isThere(o)) {
                    seen++;
                }
            }
            return seen;
        }

        int stopsThere() {
            int seen = 0;
            for (int n = 0; n < STOPS; n++) {
                if (occurrencesThere(n) > 0) {
                    seen++;
                }
            }
            return seen;
        }

        int leastAbove(int n) {
            for (int m = 1; m < STOPS; m++) {
                if (m > n && occurrencesThere(m) > 0) {
                    return m;
                }
            }
            return NONE;
        }

        int greatestBelow(int n) {
            for (int m = STOPS - 1; m >= 1; m--) {
                if (m < n && occurrencesThere(m) > 0) {
                    return m;
                }
            }
            return NONE;
        }

        int choicesThere(int n) {
            Occurrence master = template.masterOf(n);
            return master == null || !isThere(master) ? 0 : master.choices;
        }

        void addTyped(int c) {
            setBeforeEdit();
            if (isStop(stop)) {
                setTo[stop].add(c);
            }
            fresh = false;
        }

        void rubOut() {
            setBeforeEdit();
            if (isStop(stop)) {
                setTo[stop].remove(setTo[stop].size() - 1, 1);
            }
            fresh = false;
        }

        /** One that is not FRESH is SET to what it HOLDS as it is. */
        private void setBeforeEdit() {
            if (isStop(stop) && fresh) {
                markSet(stop);
                makeEmpty(stop);
            }
        }

        void pick(int i) {
            if (isStop(stop)) {
                markSet(stop);
                makeEmpty(stop);
                template.putChoice(stop, i, setTo[stop]);
                fresh = true;
            }
        }

        /**
         * What the STOPS within HELD is all made up ahead of the first mark, since
         * each mark changes what the others HOLD.
         */
        void markSet(int n) {
            if (!isStop(n) || set[n]) {
                return;
            }
            Occurrence master = template.masterOf(n);
            Session was = null;
            int kept = 0;
            for (int m = 0; m < STOPS; m++) {
                Occurrence inner = template.masterOf(m);
                if (set[m] || inner == null || !isThere(inner) || !inner.isWithin(master)) {
                    continue;
                }
                kept |= 1 << m;
                makeEmpty(m);
                putHeldWhile(setTo[m], m, 0, 0, false);
                if (setTo[m].size() > MOST_BYTES) {
                    if (was == null) {
                        was = new Session(template);
                        was.copyOf(this);
                    }
                    before[m] = was;
                }
            }
            for (int m = 0; m < STOPS; m++) {
                if ((kept >> m & 1) != 0) {
                    set[m] = true;
                }
            }
            set[n] = true;
        }

        private void makeEmpty(int n) {
            if (isStop(n)) {
                before[n] = null;
                setTo[n].empty();
            }
        }

        void replaceSet(int n, Row text) {
            if (isSet(n)) {
                makeEmpty(n);
                setTo[n].addPart(text, 0, text.size());
            }
        }

        void putHeld(int n, Row out) {
            putHeldWhile(out, n, 0, 0, false);
        }

        void layOut(Row out) {
            putItems(out, null, 0, 0, true);
        }

        /**
         * The making bits are the STOPS whose HELD texts are being made up: they
         * show nothing, so no way leads deeper than there are STOPS, here and in a
         * SESSION as it was. Only own items are noted: those in their own place, not
         * those seen by way of a mirror.
         */
        private void putHeldWhile(Row out, int n, int making, int depth, boolean own) {
            if (!isStop(n) || depth > 2 * STOPS) {
                return;
            }
            if (set[n] && before[n] != null) {
                before[n].putHeldWhile(out, n, 0, depth + 1, false);
                return;
            }
            if (set[n]) {
                out.addPart(setTo[n], 0, setTo[n].size());
                return;
            }
            Occurrence master = template.masterOf(n);
            if (master == null) {
                return;
            }
            if (master.choices > 0) {
                template.putChoice(n, 0, out);
            } else {
                putItems(out, master, making | 1 << n, depth + 1, own);
            }
        }

        /** The items within a DEFAULT; all, if it is null. */
        private void putItems(Row out, Occurrence of, int making, int depth, boolean own) {
            int begin = of == null ? 0 : of.begin;
            int end = of == null ? template.codes.size() : of.end;
            for (int i = begin; i < end; i++) {
                int code = template.codes.get(i);
                Occurrence o = template.fromCode(code);
                if (o == null) {
                    out.add(code);
                } else {
                    putOccurrence(out, o, making, depth, own);
                    i = Math.max(i, o.end - 1);
                }
            }
        }

        private void putOccurrence(Row out, Occurrence o, int making, int depth, boolean own) {
            int begin = out.size();
            if ((making >> o.stop & 1) == 0) {
                putHeldWhile(out, o.stop, making, depth, own && template.isMaster(o));
                o.changeByRule(out, begin);
            }
            if (own && o.index >= 0 && o.index < begins.length) {
                begins[o.index] = begin;
                lengths[o.index] = out.size() - begin;
            }
        }

        int beginOf(Occurrence o) {
            return o.index < 0 || o.index >= begins.length ? 0 : begins[o.index];
        }

        int lengthOf(Occurrence o) {
            return o.index < 0 || o.index >= lengths.length ? 0 : lengths[o.index];
        }

        /** Where a SESSION upon this one begins. */
        int beginOfUpper() {
            Occurrence place = template.masterOf(stop);
            if (place == null || !isThere(place)) {
                place = findThere(stop, 0);
            }
            return place == null ? 0 : beginOf(place);
        }

        int unlikePlaces() {
            int unlike = 0;
            for (int i = 0; i < template.size(); i++) {
                Occurrence o = template.get(i);
                if (o != null && isThere(o) && !hasLikeAhead(o)) {
                    unlike++;
                }
            }
            return unlike;
        }

        private boolean hasLikeAhead(Occurrence o) {
            for (int i = 0; i < o.index; i++) {
                Occurrence other = template.get(i);
                if (other != null && other.stop == o.stop && isThere(other)
                        && beginOf(other) == beginOf(o) && lengthOf(other) == lengthOf(o)) {
                    return true;
                }
            }
            return false;
        }
    }

    /** What back() goes back to, and how it shows. */
    private static final class State {
        /** THE DOCUMENT without what the lowest SESSION shows, which is at the caret. */
        private final Row plain = new Row(SHOWN_ROOM);
        int caret = 0;
        final Row[] variables = new Row[VARIABLES];
        private final Session[] sessions = new Session[MOST_SESSIONS];
        int open = 0;
        /** THE DOCUMENT as settle() made it. */
        final Row shown = new Row(SHOWN_ROOM);

        State(Template blank) {
            for (int v = 0; v < variables.length; v++) {
                variables[v] = new Row(MOST_IN_VARIABLE);
            }
            for (int k = 0; k < sessions.length; k++) {
                sessions[k] = new Session(blank);
            }
        }

        /** Not how it shows: settle() tells it anew. */
        void copyOf(State other) {
            plain.copyOf(other.plain);
            caret = other.caret;
            for (int v = 0; v < VARIABLES; v++) {
                variables[v].copyOf(other.variables[v]);
            }
            open = other.open;
            for (int k = 0; k < open && k < MOST_SESSIONS; k++) {
                sessions[k].copyOf(other.sessions[k]);
            }
        }

        Session uppermost() {
            return open < 1 || open > sessions.length ? null : sessions[open - 1];
        }

        /** The STOP that it is at; NONE: it has none to be at. */
        int openSession(Template template) {
            if (open < 0 || open >= sessions.length) {
                return NONE;
            }
            Session top = sessions[open];
            open++;
            top.begin(template);
            return top.stop;
        }

        void comeTo(int n) {
            Session top = uppermost();
            if (top != null) {
                top.comeTo(n);
            }
        }

        void endUppermost() {
            Session top = uppermost();
            if (top == null || !settle()) {
                return;
            }
            open--;
            Session below = uppermost();
            if (below != null) {
                below.fresh = false;
                return;
            }
            Occurrence last = top.findThere(0, 0);
            int behind = caret + shown.size() - plain.size();
            caret = last == null ? behind : top.beginOf(last);
            plain.copyOf(shown);
        }

        void insertAtCaret(int c) {
            plain.insert(caret, c);
            caret++;
        }

        void removeBytes(int place, int n) {
            plain.remove(place, n);
            caret -= Math.max(0, Math.min(n, caret - place));
        }

        /**
         * Each upper SESSION goes into the STOP below it, then THE DOCUMENT is made:
         * false, if it has too many bytes. An upper SESSION with too many is enough
         * for that, since the STOP below it is shown somewhere.
         */
        boolean settle() {
            for (int k = Math.min(open, sessions.length) - 1; k > 0; k--) {
                shown.empty();
                sessions[k].layOut(shown);
                if (shown.size() > MOST_BYTES) {
                    return false;
                }
                Session below = sessions[k - 1];
                below.markSet(below.stop);
                below.replaceSet(below.stop, shown);
            }
            shown.empty();
            shown.addPart(plain, 0, caret);
            if (open > 0) {
                sessions[0].layOut(shown);
            }
            shown.addPart(plain, caret, plain.size());
            return shown.size() <= MOST_BYTES;
        }

        int beginOfUppermost() {
            int begin = 0;
            for (int k = 0; k + 1 < open && k < sessions.length; k++) {
                begin += sessions[k].beginOfUpper();
            }
            return begin;
        }
    }
}
