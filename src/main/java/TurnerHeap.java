/** A small lazy language, turned into combinators and rewritten in place in a heap of few cells. */
public final class TurnerHeap {
    private static final int LONGEST_TEXT = 240;
    private static final int LEAST_ROOM = 40;
    private static final int MOST_ROOM = 400;
    private static final int MOST_STEPS = 500;

    private final char[] text;
    private int written;
    private final Lexemes lexemes;
    private final Terms terms;
    private final Reader reader;
    private final Forms forms;
    private final Heap heap;
    private final Paper paper;
    private final Machine machine;
    private boolean loaded;

    public TurnerHeap(int room) {
        text = new char[LONGEST_TEXT];
        written = 0;
        lexemes = new Lexemes();
        terms = new Terms();
        reader = new Reader(lexemes, terms);
        forms = new Forms();
        heap = new Heap(Math.max(LEAST_ROOM, Math.min(MOST_ROOM, room)));
        paper = new Paper();
        machine = new Machine(heap, paper);
        loaded = false;
    }

    public int write(long eight, int n) throws IllegalArgumentException, IllegalStateException {
        if (n < 1 || n > 8) {
            throw new IllegalArgumentException("not 1 to 8 characters");
        }
        for (int i = 0; i < n; i++) {
            if (!isCharacter(byteOf(eight, i))) {
                throw new IllegalArgumentException("no character");
            }
        }
        if (written + n > LONGEST_TEXT) {
            throw new IllegalStateException("the text is full");
        }
        for (int i = 0; i < n; i++) {
            text[written] = (char) byteOf(eight, i);
            written++;
        }
        return written;
    }

    public int erase() {
        int had = written;
        written = 0;
        return had;
    }

    public int read() throws IllegalArgumentException, IllegalStateException, UnsupportedOperationException {
        forget();
        lexemes.cut(text, written);
        reader.begin();
        for (int i = 0; i < lexemes.size() && reader.isAtDefinition(); i++) {
            reader.readDefinition();
        }
        reader.readMain();
        int cells = reader.cells();
        if (terms.isTooBig() || cells > heap.room()) {
            throw new UnsupportedOperationException("the terms are too big");
        }
        begin();
        return cells;
    }

    public int run(int n) throws IllegalArgumentException, IllegalStateException {
        if (n < 1 || n > MOST_STEPS) {
            throw new IllegalArgumentException("not 1 to 500 steps");
        }
        if (!loaded || machine.stop() != Machine.GOES) {
            throw new IllegalStateException("nothing goes");
        }
        int done = 0;
        while (done < n && machine.step()) {
            done++;
        }
        return done;
    }

    public int stopped() {
        return loaded ? machine.stop() : -1;
    }

    public int length() {
        return paper.printed();
    }

    public int letter(int i) throws IndexOutOfBoundsException {
        if (i < 0 || i >= paper.kept()) {
            throw new IndexOutOfBoundsException("no such character");
        }
        return paper.at(i);
    }

    public int reached() throws IllegalStateException {
        if (!loaded) {
            throw new IllegalStateException("nothing is read");
        }
        return machine.markReached();
    }

    public int count(int what) throws IndexOutOfBoundsException {
        if (what < 0 || what > 4) {
            throw new IndexOutOfBoundsException("no such count");
        }
        if (!loaded) {
            return 0;
        }
        switch (what) {
            case 0:
                return reader.definitions();
            case 1:
                return lexemes.size();
            case 2:
                return machine.steps();
            case 3:
                return machine.mostOnSpines();
            default:
                return machine.onSpines();
        }
    }

    public int form(int definition, int what) throws IndexOutOfBoundsException {
        if (!loaded || definition < -1 || definition >= reader.definitions() || what < 0 || what > 2) {
            throw new IndexOutOfBoundsException("no such form");
        }
        return forms.of(definition, what);
    }

    private static int byteOf(long eight, int i) {
        return (int) (eight >>> (8 * i)) & 255;
    }

    private static boolean isCharacter(int c) {
        return c == 10 || c >= 32 && c <= 126;
    }

    /** First of all, so that nothing is read any more when reading throws. */
    private void forget() {
        loaded = false;
        paper.clear();
    }

    private void begin() {
        heap.empty();
        for (int d = 0; d < reader.definitions(); d++) {
            forms.note(d, terms, reader.definition(d));
            heap.define(d, heap.load(terms, reader.definition(d)));
        }
        forms.note(-1, terms, reader.mainTerm());
        machine.begin(heap.load(terms, reader.mainTerm()));
        loaded = true;
    }

    /** A side of an application, held in one long: its kind above, its number below. */
    private static final class Word {
        static final int NUMBER = 0;
        static final int REFERENCE = 1;
        static final int I = 2;
        static final int K = 3;
        static final int S = 4;
        static final int B = 5;
        static final int C = 6;
        static final int S_PRIME = 7;
        static final int B_PRIME = 8;
        static final int C_PRIME = 9;
        static final int COND = 10;
        static final int ADD = 11;
        static final int SUB = 12;
        static final int MUL = 13;
        static final int LESS = 14;
        static final int EQUAL = 15;
        static final int PAIR = 16;
        static final int NIL = 17;
        static final int HEAD = 18;
        static final int TAIL = 19;
        static final int NULL = 20;
        static final int TRUE = 21;
        static final int FALSE = 22;
        static final int CELL = 23;
        static final int NAME = 24;

        static long of(int kind, int number) {
            return ((long) kind << 32) | (number & 0xFFFFFFFFL);
        }

        static long constant(int kind) {
            return (long) kind << 32;
        }

        static int kind(long word) {
            return (int) (word >>> 32);
        }

        static int number(long word) {
            return (int) word;
        }

        static boolean isCell(long word) {
            return (int) (word >>> 32) == CELL;
        }
    }

    /** The text cut into lexemes. A sign's kind is its own character. */
    private static final class Lexemes {
        static final int END = 0;
        static final int NAME = 1;
        static final int NUMBER = 2;
        static final int SAME = 3;
        private static final int MOST = 100;
        private static final int LONGEST_NAME = 4;
        private static final int LONGEST_NUMBER = 6;
        private static final String SIGNS = "()[],:;.\\+-*<=";

        private final int[] kinds;
        private final int[] values;
        private int size;

        Lexemes() {
            kinds = new int[MOST];
            values = new int[MOST];
            size = 0;
        }

        int size() {
            return size;
        }

        int kind(int i) {
            return i >= 0 && i < size ? kinds[i] : END;
        }

        int value(int i) {
            return i >= 0 && i < size ? values[i] : 0;
        }

        void cut(char[] text, int n) {
            size = 0;
            for (int at = 0; at < n; at++) {
                char c = text[at];
                if (isLetter(c)) {
                    int end = endOf(text, at, Math.min(n, at + LONGEST_NAME), true);
                    add(NAME, nameOf(text, at, end));
                    at = end - 1;
                } else if (isDigit(c)) {
                    int end = endOf(text, at, Math.min(n, at + LONGEST_NUMBER), false);
                    add(NUMBER, numberOf(text, at, end));
                    at = end - 1;
                } else if (c == '=' && at + 1 < n && text[at + 1] == '=') {
                    add(SAME, 0);
                    at++;
                } else if (SIGNS.indexOf(c) >= 0) {
                    add(c, 0);
                } else if (c != ' ' && c != '\n') {
                    throw new IllegalArgumentException("no lexeme");
                }
            }
        }

        private void add(int kind, int value) {
            if (size >= MOST) {
                throw new IllegalStateException("too many lexemes");
            }
            kinds[size] = kind;
            values[size] = value;
            size++;
        }

        private static int endOf(char[] text, int from, int bound, boolean letters) {
            int end = from;
            while (end < bound && (letters ? isLetter(text[end]) : isDigit(text[end]))) {
                end++;
            }
            return end;
        }

        /** Five bits a letter, so that two names are alike when their codes are. */
        private static int nameOf(char[] text, int from, int end) {
            int code = 0;
            for (int i = from; i < end; i++) {
                code = code * 32 + (text[i] - 'a' + 1);
            }
            return code;
        }

        private static int numberOf(char[] text, int from, int end) {
            int number = 0;
            for (int i = from; i < end; i++) {
                number = number * 10 + (text[i] - '0');
            }
            return number;
        }

        private static boolean isLetter(char c) {
            return c >= 'a' && c <= 'z';
        }

        private static boolean isDigit(char c) {
            return c >= '0' && c <= '9';
        }
    }

    /** Terms while they are read: trees of applications, out of which names are taken in place. */
    private static final class Terms {
        /** Taking out shrinks terms by less than 600 (a few for each lexeme): so what fills this fits in no room. */
        static final int NODES = 1024;
        private static final int MOST_APPLICATIONS = 400;

        private final long[] left;
        private final long[] right;
        private final int[] free;
        private int freeSize;
        private final int[] order;
        private final boolean[] has;
        private final long[] without;
        private boolean tooBig;

        Terms() {
            left = new long[NODES];
            right = new long[NODES];
            free = new int[NODES];
            freeSize = 0;
            order = new int[NODES];
            has = new boolean[NODES];
            without = new long[NODES];
            tooBig = false;
        }

        void clear() {
            for (int i = 0; i < NODES; i++) {
                free[i] = NODES - 1 - i;
            }
            freeSize = NODES;
            tooBig = false;
        }

        boolean isTooBig() {
            return tooBig;
        }

        long leftOf(int node) {
            return left[node];
        }

        long rightOf(int node) {
            return right[node];
        }

        /** The node at place i of what was listed last. */
        int listed(int i) {
            return order[i];
        }

        /** When it is too big, reading still goes on, because a wrong text is told as such. */
        long apply(long f, long x) {
            if (freeSize == 0) {
                tooBig = true;
            }
            if (tooBig) {
                return Word.constant(Word.NIL);
            }
            freeSize--;
            int node = free[freeSize];
            left[node] = f;
            right[node] = x;
            return Word.of(Word.CELL, node);
        }

        long applyToTwo(int constant, long a, long b) {
            return apply(apply(Word.constant(constant), a), b);
        }

        /** Lists a term's applications, each before those within it: how many there are. */
        int list(long term) {
            int n = 0;
            if (Word.isCell(term)) {
                order[n] = Word.number(term);
                n++;
            }
            for (int i = 0; i < n && i < NODES; i++) {
                n = listSide(left[order[i]], n);
                n = listSide(right[order[i]], n);
            }
            return n;
        }

        private int listSide(long side, int n) {
            if (!Word.isCell(side) || n >= NODES) {
                return n;
            }
            order[n] = Word.number(side);
            return n + 1;
        }

        /** Each application belongs to one term alone, so what comes of it may be written over it. */
        long takeOut(int name, long term) {
            if (tooBig) {
                return term;
            }
            long self = Word.of(Word.NAME, name);
            int n = list(term);
            for (int i = n - 1; i >= 0 && !tooBig; i--) {
                takeOutOf(order[i], self);
            }
            long taken = hasName(term, self) ? withoutName(term) : apply(Word.constant(Word.K), term);
            if (!tooBig && list(taken) > MOST_APPLICATIONS) {
                tooBig = true;
            }
            return taken;
        }

        private void takeOutOf(int node, long self) {
            long f = left[node];
            long x = right[node];
            boolean inF = hasName(f, self);
            boolean inX = hasName(x, self);
            has[node] = inF || inX;
            if (!has[node]) {
                return;
            }
            long p = inF ? withoutName(f) : f;
            long q = inX ? withoutName(x) : x;
            boolean pIsK = !inF || isK(p);
            boolean qIsK = !inX || isK(q);
            if (inF && pIsK) {
                p = unwrap(p);
            }
            if (inX && qIsK) {
                q = unwrap(q);
            }
            without[node] = pIsK ? joinConstant(node, p, q, qIsK) : joinVarying(node, p, q, qIsK);
        }

        /** What comes of f x, when f becomes K p; x becomes q, or K q. */
        private long joinConstant(int node, long p, long q, boolean qIsK) {
            if (qIsK) {
                return apply(Word.constant(Word.K), put(node, p, q));
            }
            if (q == Word.constant(Word.I)) {
                drop(node);
                return p;
            }
            if (Word.isCell(p)) {
                int inner = Word.number(p);
                long first = apply(Word.constant(Word.B_PRIME), left[inner]);
                return put(node, put(inner, first, right[inner]), q);
            }
            return put(node, apply(Word.constant(Word.B), p), q);
        }

        /** What comes of f x, when f becomes p, which is no K; x becomes q, or K q. */
        private long joinVarying(int node, long p, long q, boolean qIsK) {
            if (isB(p)) {
                left[Word.number(left[Word.number(p)])] = Word.constant(qIsK ? Word.C_PRIME : Word.S_PRIME);
                return put(node, p, q);
            }
            return put(node, apply(Word.constant(qIsK ? Word.C : Word.S), p), q);
        }

        private boolean isB(long term) {
            if (!Word.isCell(term)) {
                return false;
            }
            long inner = left[Word.number(term)];
            return Word.isCell(inner) && left[Word.number(inner)] == Word.constant(Word.B);
        }

        private boolean isK(long term) {
            return Word.isCell(term) && left[Word.number(term)] == Word.constant(Word.K);
        }

        private boolean hasName(long term, long self) {
            return Word.isCell(term) ? has[Word.number(term)] : term == self;
        }

        private long withoutName(long term) {
            return Word.isCell(term) ? without[Word.number(term)] : Word.constant(Word.I);
        }

        private long unwrap(long wrapped) {
            int node = Word.number(wrapped);
            drop(node);
            return right[node];
        }

        private long put(int node, long f, long x) {
            left[node] = f;
            right[node] = x;
            return Word.of(Word.CELL, node);
        }

        private void drop(int node) {
            if (freeSize < NODES) {
                free[freeSize] = node;
                freeSize++;
            }
        }
    }

    /** Reads the lexemes of a program into terms. */
    private static final class Reader {
        private static final int MOST_DEFINITIONS = 8;
        private static final int MOST_PARAMETERS = 6;
        private static final int DEEPEST = 8;
        private static final int MOST_WAITING = 100;
        private static final int DEF = (('d' - 96) * 32 + ('e' - 96)) * 32 + ('f' - 96);
        private static final int IF = ('i' - 96) * 32 + ('f' - 96);
        private static final int THEN = ((('t' - 96) * 32 + ('h' - 96)) * 32 + ('e' - 96)) * 32 + ('n' - 96);
        private static final int ELSE = ((('e' - 96) * 32 + ('l' - 96)) * 32 + ('s' - 96)) * 32 + ('e' - 96);
        private static final int HD = ('h' - 96) * 32 + ('d' - 96);
        private static final int TL = ('t' - 96) * 32 + ('l' - 96);
        private static final int NUL = (('n' - 96) * 32 + ('u' - 96)) * 32 + ('l' - 96);

        private final Lexemes lexemes;
        private final Terms terms;
        private int at;
        private final int[] names;
        private int named;
        private final long[] defined;
        private int definitions;
        private long mainTerm;
        private final int[] scope;
        private int inScope;
        private final long[] waiting;
        private int waitingSize;

        Reader(Lexemes lexemes, Terms terms) {
            this.lexemes = lexemes;
            this.terms = terms;
            names = new int[MOST_DEFINITIONS];
            defined = new long[MOST_DEFINITIONS];
            scope = new int[MOST_PARAMETERS + DEEPEST];
            waiting = new long[MOST_WAITING];
        }

        int definitions() {
            return definitions;
        }

        long definition(int d) {
            return defined[d];
        }

        long mainTerm() {
            return mainTerm;
        }

        int cells() {
            int cells = terms.list(mainTerm);
            for (int d = 0; d < definitions; d++) {
                cells += terms.list(defined[d]);
            }
            return cells;
        }

        void begin() {
            terms.clear();
            at = 0;
            definitions = 0;
            inScope = 0;
            waitingSize = 0;
            findNames();
        }

        boolean isAtDefinition() {
            return isWord(DEF);
        }

        void readMain() {
            inScope = 0;
            mainTerm = expression(1);
            expect(Lexemes.END);
        }

        /** A name may be used before its definition, so these are found before anything is read. */
        private void findNames() {
            named = 0;
            for (int i = 0; i < lexemes.size() && named < MOST_DEFINITIONS; i++) {
                boolean begins = i == 0 || lexemes.kind(i - 1) == ';';
                boolean defines = lexemes.kind(i) == Lexemes.NAME && lexemes.value(i) == DEF;
                if (begins && defines && lexemes.kind(i + 1) == Lexemes.NAME) {
                    names[named] = lexemes.value(i + 1);
                    named++;
                }
            }
        }

        void readDefinition() {
            at++;
            expect(Lexemes.NAME);
            inScope = 0;
            for (int i = 0; i <= MOST_PARAMETERS && lexemes.kind(at) == Lexemes.NAME; i++) {
                readParameter();
            }
            int parameters = inScope;
            expect('=');
            if (definitions >= MOST_DEFINITIONS) {
                throw new IllegalStateException("too many definitions");
            }
            long term = expression(1);
            expect(';');
            for (int i = parameters - 1; i >= 0; i--) {
                term = terms.takeOut(scope[i], term);
            }
            defined[definitions] = term;
            definitions++;
        }

        private void readParameter() {
            int name = lexemes.value(at);
            if (inScope >= MOST_PARAMETERS || isInScope(name)) {
                throw new IllegalArgumentException("too many parameters, or two alike");
            }
            scope[inScope] = name;
            inScope++;
            at++;
        }

        private long expression(int depth) {
            if (depth > DEEPEST) {
                throw new IllegalStateException("too deep");
            }
            if (isWord(IF)) {
                return choice(depth);
            }
            if (lexemes.kind(at) == '\\') {
                return function(depth);
            }
            return chain(depth);
        }

        private long choice(int depth) {
            at++;
            long condition = expression(depth + 1);
            expectWord(THEN);
            long then = expression(depth + 1);
            expectWord(ELSE);
            long other = expression(depth + 1);
            return terms.apply(terms.applyToTwo(Word.COND, condition, then), other);
        }

        private long function(int depth) {
            at++;
            int name = lexemes.value(at);
            expect(Lexemes.NAME);
            expect('.');
            if (inScope >= scope.length) {
                throw new IllegalStateException("too deep");
            }
            scope[inScope] = name;
            inScope++;
            long body = expression(depth + 1);
            inScope--;
            return terms.takeOut(name, body);
        }

        private long chain(int depth) {
            int from = waitingSize;
            long last = comparison(depth);
            for (int i = 0; i < lexemes.size() && lexemes.kind(at) == ':'; i++) {
                at++;
                await(last);
                last = comparison(depth);
            }
            return pairUp(from, last);
        }

        private long comparison(int depth) {
            long a = sum(depth);
            int kind = lexemes.kind(at);
            if (kind != '<' && kind != Lexemes.SAME) {
                return a;
            }
            at++;
            long b = sum(depth);
            return terms.applyToTwo(kind == '<' ? Word.LESS : Word.EQUAL, a, b);
        }

        private long sum(int depth) {
            long a = product(depth);
            for (int i = 0; i < lexemes.size() && (lexemes.kind(at) == '+' || lexemes.kind(at) == '-'); i++) {
                int constant = lexemes.kind(at) == '+' ? Word.ADD : Word.SUB;
                at++;
                a = terms.applyToTwo(constant, a, product(depth));
            }
            return a;
        }

        private long product(int depth) {
            long a = application(depth);
            for (int i = 0; i < lexemes.size() && lexemes.kind(at) == '*'; i++) {
                at++;
                a = terms.applyToTwo(Word.MUL, a, application(depth));
            }
            return a;
        }

        private long application(int depth) {
            long f = atom(depth);
            for (int i = 0; i < lexemes.size() && beginsAtom(); i++) {
                f = terms.apply(f, atom(depth));
            }
            return f;
        }

        private boolean beginsAtom() {
            int kind = lexemes.kind(at);
            return kind == Lexemes.NUMBER || kind == '(' || kind == '['
                || kind == Lexemes.NAME && !isAnyWord(lexemes.value(at));
        }

        private long atom(int depth) {
            if (!beginsAtom()) {
                throw new IllegalArgumentException("no atom");
            }
            int kind = lexemes.kind(at);
            int value = lexemes.value(at);
            at++;
            if (kind == Lexemes.NUMBER) {
                return Word.of(Word.NUMBER, value);
            }
            if (kind == Lexemes.NAME) {
                return meaning(value);
            }
            if (kind == '[') {
                return row(depth);
            }
            long inner = expression(depth + 1);
            expect(')');
            return inner;
        }

        private long row(int depth) {
            int from = waitingSize;
            if (lexemes.kind(at) != ']') {
                await(expression(depth + 1));
                for (int i = 0; i < lexemes.size() && lexemes.kind(at) == ','; i++) {
                    at++;
                    await(expression(depth + 1));
                }
            }
            expect(']');
            return pairUp(from, Word.constant(Word.NIL));
        }

        /** Pairs are made from the right: so those at the left wait until the last one is read. */
        private void await(long term) {
            if (waitingSize < MOST_WAITING) {
                waiting[waitingSize] = term;
                waitingSize++;
            }
        }

        private long pairUp(int from, long last) {
            long pairs = last;
            for (int i = waitingSize - 1; i >= from; i--) {
                pairs = terms.applyToTwo(Word.PAIR, waiting[i], pairs);
            }
            waitingSize = from;
            return pairs;
        }

        private long meaning(int name) {
            if (isInScope(name)) {
                return Word.of(Word.NAME, name);
            }
            for (int d = 0; d < named; d++) {
                if (names[d] == name) {
                    return Word.of(Word.REFERENCE, d);
                }
            }
            switch (name) {
                case HD:
                    return Word.constant(Word.HEAD);
                case TL:
                    return Word.constant(Word.TAIL);
                case NUL:
                    return Word.constant(Word.NULL);
                default:
                    throw new IllegalArgumentException("a name that means nothing");
            }
        }

        private boolean isInScope(int name) {
            for (int i = 0; i < inScope; i++) {
                if (scope[i] == name) {
                    return true;
                }
            }
            return false;
        }

        private boolean isWord(int word) {
            return lexemes.kind(at) == Lexemes.NAME && lexemes.value(at) == word;
        }

        private static boolean isAnyWord(int name) {
            return name == DEF || name == IF || name == THEN || name == ELSE;
        }

        private void expectWord(int word) {
            if (!isWord(word)) {
                throw new IllegalArgumentException("another word is due");
            }
            at++;
        }

        private void expect(int kind) {
            if (lexemes.kind(at) != kind) {
                throw new IllegalArgumentException("another lexeme is due");
            }
            at++;
        }
    }

    /** What form answers: kept, because the machine rewrites the terms. */
    private static final class Forms {
        private static final int ASKED = 3;
        private static final int MOST = 9;

        private final int[] answers;

        Forms() {
            answers = new int[MOST * ASKED];
        }

        int of(int definition, int what) {
            return answers[(definition + 1) * ASKED + what];
        }

        void note(int definition, Terms terms, long term) {
            int first = (definition + 1) * ASKED;
            int applications = terms.list(term);
            int toLeft = 0;
            long head = term;
            while (toLeft < applications && Word.isCell(head)) {
                head = terms.leftOf(Word.number(head));
                toLeft++;
            }
            answers[first] = applications;
            answers[first + 1] = toLeft;
            answers[first + 2] = Word.kind(head);
        }
    }

    /** The cells, and the definitions' terms, whose cells are always reached. */
    private static final class Heap {
        private static final int MOST_DEFINITIONS = 8;

        private final int room;
        private final long[] left;
        private final long[] right;
        private final int[] free;
        private int freeSize;
        /** In which round a cell was marked last: so that a new round needs no wiping. */
        private final int[] markedIn;
        private int round;
        private final int[] toMark;
        private int marks;
        private final long[] defined;
        private int definitions;
        private final int[] places;

        Heap(int room) {
            this.room = room;
            left = new long[room];
            right = new long[room];
            free = new int[room];
            markedIn = new int[room];
            round = 0;
            toMark = new int[room];
            defined = new long[MOST_DEFINITIONS];
            places = new int[Terms.NODES];
        }

        int room() {
            return room;
        }

        int freeCells() {
            return freeSize;
        }

        long leftOf(int cell) {
            return left[cell];
        }

        long rightOf(int cell) {
            return right[cell];
        }

        long defined(int d) {
            return d >= 0 && d < definitions ? defined[d] : Word.constant(Word.NIL);
        }

        void empty() {
            definitions = 0;
            unmark();
            sweep();
        }

        void define(int d, long term) {
            defined[d] = term;
            definitions = d + 1;
        }

        long load(Terms terms, long term) {
            int n = terms.list(term);
            for (int i = 0; i < n; i++) {
                places[terms.listed(i)] = Word.number(make(0L, 0L));
            }
            for (int i = 0; i < n; i++) {
                int node = terms.listed(i);
                set(places[node], placed(terms.leftOf(node)), placed(terms.rightOf(node)));
            }
            return placed(term);
        }

        private long placed(long side) {
            return Word.isCell(side) ? Word.of(Word.CELL, places[Word.number(side)]) : side;
        }

        /** The caller has seen to it that a cell is free: looked at here only so that nothing can fail. */
        long make(long f, long x) {
            if (freeSize == 0) {
                return Word.constant(Word.NIL);
            }
            freeSize--;
            int cell = free[freeSize];
            set(cell, f, x);
            return Word.of(Word.CELL, cell);
        }

        void set(int cell, long f, long x) {
            left[cell] = f;
            right[cell] = x;
        }

        void unmark() {
            round++;
            marks = 0;
        }

        int marks() {
            return marks;
        }

        void markDefinitions() {
            for (int d = 0; d < definitions; d++) {
                mark(defined[d]);
            }
        }

        /** Each cell is noted once, so the notes are at most as many as the cells. */
        void mark(long term) {
            int from = marks;
            note(term);
            for (int i = from; i < marks && i < room; i++) {
                note(left[toMark[i]]);
                note(right[toMark[i]]);
            }
        }

        private void note(long side) {
            if (!Word.isCell(side)) {
                return;
            }
            int cell = (int) side;
            if (markedIn[cell] != round && marks < room) {
                markedIn[cell] = round;
                toMark[marks] = cell;
                marks++;
            }
        }

        void sweep() {
            freeSize = 0;
            for (int cell = room - 1; cell >= 0; cell--) {
                if (markedIn[cell] != round) {
                    free[freeSize] = cell;
                    freeSize++;
                }
            }
        }
    }

    /** What came out. */
    private static final class Paper {
        private static final int KEPT = 200;
        private static final int MOST_DIGITS = 10;

        private final char[] first;
        private final char[] digits;
        private int printed;

        Paper() {
            first = new char[KEPT];
            digits = new char[MOST_DIGITS];
            printed = 0;
        }

        void clear() {
            printed = 0;
        }

        int printed() {
            return printed;
        }

        int kept() {
            return Math.min(printed, KEPT);
        }

        char at(int i) {
            return first[i];
        }

        void print(char c) {
            if (printed < KEPT) {
                first[printed] = c;
            }
            printed++;
        }

        /** A long, because the least int has no counterpart above 0. */
        void printNumber(int number) {
            long rest = number;
            if (rest < 0) {
                print('-');
                rest = -rest;
            }
            int n = 0;
            do {
                digits[n] = (char) ('0' + rest % 10);
                rest /= 10;
                n++;
            } while (rest > 0 && n < MOST_DIGITS);
            for (int i = n - 1; i >= 0; i--) {
                print(digits[i]);
            }
        }
    }

    /** Evaluates terms step by step, and prints. */
    private static final class Machine {
        static final int GOES = 0;
        private static final int ENDED = 1;
        private static final int TYPE_ERROR = 2;
        private static final int NO_ROOM = 3;
        private static final int TOO_DEEP = 4;
        private static final int FUNCTION = Word.NAME + 1;
        private static final long IDENTITY = (long) Word.I << 32;
        private static final int MOST_ON_SPINES = 150;
        private static final int MOST_UPPER_SPINES = 40;
        /** Between two steps an upper spine comes and goes at most some hundred times. */
        private static final int MOST_LOOKS = 100000;
        private static final int[] NEEDED =
            {0, 0, 1, 2, 3, 3, 3, 4, 4, 4, 3, 2, 2, 2, 2, 2, 2, 0, 1, 1, 1, 0, 0};
        private static final int[] NEW_CELLS = {0, 0, 0, 0, 2, 1, 1, 3, 2, 2};

        private final Heap heap;
        private final Paper paper;
        private final int[] spine;
        private int onSpines;
        private int mostOnSpines;
        private final int[] bases;
        private final int[] askers;
        private final boolean[] asksSecond;
        private final int[] firsts;
        private int upperSpines;
        private long looked;
        private long rest;
        private boolean isLeftSide;
        private boolean isRest;
        private long pairLeft;
        private long pairRight;
        private int steps;
        private int stop;

        Machine(Heap heap, Paper paper) {
            this.heap = heap;
            this.paper = paper;
            spine = new int[MOST_ON_SPINES];
            bases = new int[MOST_UPPER_SPINES + 1];
            askers = new int[MOST_UPPER_SPINES + 1];
            asksSecond = new boolean[MOST_UPPER_SPINES + 1];
            firsts = new int[MOST_UPPER_SPINES + 1];
        }

        int stop() {
            return stop;
        }

        int steps() {
            return steps;
        }

        int onSpines() {
            return onSpines;
        }

        int mostOnSpines() {
            return mostOnSpines;
        }

        void begin(long mainTerm) {
            onSpines = 0;
            mostOnSpines = 0;
            upperSpines = 0;
            bases[0] = 0;
            looked = mainTerm;
            rest = Word.constant(Word.NIL);
            isLeftSide = false;
            isRest = false;
            steps = 0;
            stop = GOES;
        }

        int markReached() {
            heap.unmark();
            heap.markDefinitions();
            heap.mark(looked);
            heap.mark(rest);
            for (int i = 0; i < onSpines; i++) {
                heap.mark(Word.of(Word.CELL, spine[i]));
            }
            return heap.marks();
        }

        /** Does one step: false, when it stops without one. */
        boolean step() {
            boolean done = false;
            for (int i = 0; i < MOST_LOOKS && stop == GOES && !done; i++) {
                if (goLeft()) {
                    done = act();
                }
            }
            if (done) {
                steps++;
            }
            return done;
        }

        private boolean goLeft() {
            while (onSpines < MOST_ON_SPINES && Word.isCell(looked)) {
                int cell = Word.number(looked);
                spine[onSpines] = cell;
                onSpines++;
                looked = heap.leftOf(cell);
            }
            mostOnSpines = Math.max(mostOnSpines, onSpines);
            return !Word.isCell(looked) || halt(TOO_DEEP);
        }

        /** Says how it stopped; false, because that is no step. */
        private boolean halt(int how) {
            stop = how;
            return false;
        }

        /** True, when a step was done; else it has stopped, or something else is looked at. */
        private boolean act() {
            int kind = Word.kind(looked);
            int arguments = onSpines - bases[upperSpines];
            if (kind == Word.REFERENCE) {
                looked = heap.defined(Word.number(looked));
                return true;
            }
            if (kind < 0 || kind >= NEEDED.length) {
                return halt(TYPE_ERROR);
            }
            if (isPlain(kind) || kind == Word.PAIR) {
                return arguments > NEEDED[kind] ? halt(TYPE_ERROR) : haveValue(kind, arguments);
            }
            if (arguments < NEEDED[kind]) {
                return haveValue(kind, arguments);
            }
            if (kind == Word.I) {
                looked = argument(1);
                onSpines--;
                return true;
            }
            return kind <= Word.C_PRIME ? rewrite(kind) : ask(kind, false, 0);
        }

        private static boolean isPlain(int kind) {
            return isPrintable(kind) || kind == Word.NIL;
        }

        private static boolean isPrintable(int kind) {
            return kind == Word.NUMBER || kind == Word.TRUE || kind == Word.FALSE;
        }

        /** The innermost cell of the spine is the last one, so arguments are counted from the end. */
        private long argument(int i) {
            return heap.rightOf(spine[onSpines - i]);
        }

        private boolean rewrite(int kind) {
            int cells = NEW_CELLS[kind];
            if (heap.freeCells() < cells) {
                markReached();
                heap.sweep();
            }
            if (heap.freeCells() < cells) {
                return halt(NO_ROOM);
            }
            long a = argument(1);
            long b = argument(2);
            long c = NEEDED[kind] > 2 ? argument(3) : 0L;
            long d = NEEDED[kind] > 3 ? argument(4) : 0L;
            switch (kind) {
                case Word.K:
                    return overwrite(2, IDENTITY, a);
                case Word.S:
                    return overwrite(3, heap.make(a, c), heap.make(b, c));
                case Word.B:
                    return overwrite(3, a, heap.make(b, c));
                case Word.C:
                    return overwrite(3, heap.make(a, c), b);
                case Word.S_PRIME:
                    return overwrite(4, heap.make(a, heap.make(b, d)), heap.make(c, d));
                case Word.B_PRIME:
                    return overwrite(4, heap.make(a, b), heap.make(c, d));
                default:
                    return overwrite(4, heap.make(a, heap.make(b, d)), c);
            }
        }

        /** Overwrites the cell of the last of n arguments, and goes on from there. */
        private boolean overwrite(int n, long f, long x) {
            int root = onSpines - n;
            heap.set(spine[root], f, x);
            onSpines = root + 1;
            looked = f;
            return true;
        }

        /** Looks at an argument of the constant, with a spine of its own. */
        private boolean ask(int asker, boolean second, int first) {
            if (upperSpines >= MOST_UPPER_SPINES) {
                return halt(TOO_DEEP);
            }
            long asked = argument(second ? 2 : 1);
            upperSpines++;
            bases[upperSpines] = onSpines;
            askers[upperSpines] = asker;
            asksSecond[upperSpines] = second;
            firsts[upperSpines] = first;
            looked = asked;
            return false;
        }

        /** The sides of a pair are kept, because its spine goes. */
        private boolean haveValue(int head, int arguments) {
            int number = Word.number(looked);
            int kind = isPlain(head) ? head : FUNCTION;
            if (head == Word.PAIR && arguments == 2) {
                kind = Word.PAIR;
                pairLeft = argument(1);
                pairRight = argument(2);
            }
            if (arguments > 0) {
                looked = Word.of(Word.CELL, spine[bases[upperSpines]]);
            }
            onSpines = bases[upperSpines];
            if (upperSpines == 0) {
                return isLeftSide ? printLeftSide(kind, number) : printTerm(kind, number);
            }
            upperSpines--;
            return goOn(kind, number);
        }

        /** The constant that asked goes on with the value. */
        private boolean goOn(int kind, int number) {
            int frame = upperSpines + 1;
            int asker = askers[frame];
            if (asker == Word.COND) {
                return choose(kind);
            }
            if (asker >= Word.HEAD) {
                return takeApart(asker, kind);
            }
            if (kind != Word.NUMBER) {
                return halt(TYPE_ERROR);
            }
            if (!asksSecond[frame]) {
                return ask(asker, true, number);
            }
            return overwrite(2, IDENTITY, calculate(asker, firsts[frame], number));
        }

        private boolean choose(int kind) {
            if (kind != Word.TRUE && kind != Word.FALSE) {
                return halt(TYPE_ERROR);
            }
            return overwrite(3, IDENTITY, argument(kind == Word.TRUE ? 2 : 3));
        }

        private boolean takeApart(int asker, int kind) {
            if (asker == Word.NULL && (kind == Word.NIL || kind == Word.PAIR)) {
                return overwrite(1, IDENTITY, truth(kind == Word.NIL));
            }
            if (kind != Word.PAIR) {
                return halt(TYPE_ERROR);
            }
            return overwrite(1, IDENTITY, asker == Word.HEAD ? pairLeft : pairRight);
        }

        private static long calculate(int asker, int a, int b) {
            switch (asker) {
                case Word.ADD:
                    return Word.of(Word.NUMBER, a + b);
                case Word.SUB:
                    return Word.of(Word.NUMBER, a - b);
                case Word.MUL:
                    return Word.of(Word.NUMBER, a * b);
                case Word.LESS:
                    return truth(a < b);
                default:
                    return truth(a == b);
            }
        }

        private static long truth(boolean is) {
            return Word.constant(is ? Word.TRUE : Word.FALSE);
        }

        private boolean printTerm(int kind, int number) {
            if (kind == Word.PAIR) {
                looked = pairLeft;
                rest = pairRight;
                isLeftSide = true;
                return false;
            }
            if (kind == FUNCTION || isRest && kind != Word.NIL) {
                return halt(TYPE_ERROR);
            }
            if (kind != Word.NIL) {
                printValue(kind, number);
            }
            stop = ENDED;
            return true;
        }

        private boolean printLeftSide(int kind, int number) {
            if (!isPrintable(kind)) {
                return halt(TYPE_ERROR);
            }
            printValue(kind, number);
            paper.print(' ');
            looked = rest;
            rest = Word.constant(Word.NIL);
            isLeftSide = false;
            isRest = true;
            return true;
        }

        private void printValue(int kind, int number) {
            if (kind == Word.NUMBER) {
                paper.printNumber(number);
            } else {
                paper.print(kind == Word.TRUE ? 't' : 'f');
            }
        }
    }
}
