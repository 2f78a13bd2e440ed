import java.util.Arrays;

/** An engine for knots and links. The document ../shared/DOC.md says what it promises. */
public final class LinkEngine {
    private static final int ROOM = 4000;
    private static final int MAX_LINES = 64;
    private static final int MAX_LETTERS_READ = 32;
    private static final int MAX_TERMS = 64;
    private static final int MAX_CROSSINGS = 20;
    private static final int MAX_CIRCLES = 20;
    private static final int MAX_LETTERS = 20;
    private static final int MAX_STRANDS = 8;
    private static final int PLACES = 4 * MAX_CROSSINGS;
    private static final int EDGES = 2 * MAX_CROSSINGS;
    private static final int LINES_EVER = 2000;
    private static final int SUMS_EVER = 200;
    private static final int SUM_CROSSINGS = 10;
    private static final int SUM_CIRCLES = 9;
    private static final int MAX_RUN = 16;

    private static final int CODE = 1;
    private static final int BRAID = 2;
    private static final int UNDO = 3;
    private static final int SLIDE = 4;
    private static final int TWIST = 5;
    private static final int PUSH = 6;
    private static final int SIMPLIFY = 7;
    private static final int MIRROR = 8;
    private static final int REVERSE = 9;
    private static final int CHANGE = 10;
    private static final int SMOOTH = 11;
    private static final int NUMBER = 12;
    private static final int SHOW = 13;
    private static final int COUNT = 14;
    private static final int FACES = 15;
    private static final int BRACKET = 16;
    private static final int JONES = 17;
    private static final int ALEXANDER = 18;

    private final Reader reader;
    private final int[] tape;
    private final Lines lines;
    private final Paper paper;
    private final Moves moves;
    private final StateSum stateSum;
    private final Minor minor;
    private final Polynomial polynomial;
    private Diagram now;
    private Diagram next;
    private Diagram trial;
    private Braid latest;
    private Braid earlier;
    private Braid spare;
    private int onTape;
    private boolean hasRead;
    private int linesDone;
    private int sumsDone;

    public LinkEngine() {
        reader = new Reader();
        tape = reader.text;
        lines = reader.lines;
        paper = new Paper();
        moves = new Moves();
        stateSum = new StateSum();
        minor = new Minor();
        polynomial = new Polynomial();
        now = new Diagram();
        next = new Diagram();
        trial = new Diagram();
        latest = new Braid();
        earlier = new Braid();
        spare = new Braid();
    }

    public int feed(int a, int b, int c, int d, int e) {
        if (onTape + 20 > ROOM) {
            return -1;
        }
        putOnTape(a);
        putOnTape(b);
        putOnTape(c);
        putOnTape(d);
        putOnTape(e);
        return onTape;
    }

    public int read(int n) {
        if (n < 0 || n > onTape) {
            return -2;
        }
        onTape = 0;
        hasRead = true;
        reader.begin(n);
        for (int i = 0; i < n && reader.hasMore(); i++) {
            if (reader.beginLine()) {
                reader.readRest(lines.kindOfLast());
            }
        }
        if (reader.faultFound != 0) {
            lines.clear();
            return -1;
        }
        return lines.waiting();
    }

    public int fault(int what) {
        if (!hasRead) {
            return -1;
        }
        switch (what) {
            case 0: return reader.faultFound;
            case 1: return reader.faultPlace;
            default: return -1;
        }
    }

    public int run(int n) {
        if (n < 0 || n > MAX_RUN) {
            return -1;
        }
        int done = 0;
        while (done < n && mayDoNext()) {
            int kind = lines.kindOfNext();
            int sizeBefore = paper.size;
            boolean changed = perform(kind);
            if (paper.overflown) {
                paper.shrink(sizeBefore);
                break;
            }
            if (changed) {
                keepChange(kind);
            }
            leaveLine(kind);
            done++;
            if (kind >= BRACKET) {
                break;
            }
        }
        return done;
    }

    public int state(int what) {
        switch (what) {
            case 0: return lines.waiting();
            case 1: return lines.kindOfNext();
            case 2: return now.count;
            case 3: return now.circles;
            case 4: return now.sumOfSigns();
            case 5: return now.shape().components + now.circles;
            case 6: return paper.size;
            case 7: return onTape;
            default: return -1000;
        }
    }

    public int crossing(int k, int what) {
        if (k < 0 || k >= now.count || what < 0 || what > 4) {
            return 0;
        }
        return what == 4 ? now.sign[k] : now.label[4 * k + what];
    }

    public int printed(int i) {
        return i >= 0 && i < paper.size ? paper.bytes[i] : -1;
    }

    public int wipe(boolean tape) {
        int size = paper.size;
        if (tape) {
            System.arraycopy(paper.bytes, 0, this.tape, 0, size);
            onTape = size;
        }
        paper.size = 0;
        return size;
    }

    public boolean same() {
        return latest.isOneBraidWith(earlier);
    }

    public int form(boolean before, int j, int p) {
        return (before ? earlier : latest).formAt(j, p);
    }

    public int length(boolean before) {
        return (before ? earlier : latest).simpleBraids();
    }

    private void putOnTape(int number) {
        for (int shift = 24; shift >= 0 && onTape < ROOM; shift -= 8) {
            tape[onTape] = (number >>> shift) & 255;
            onTape++;
        }
    }

    private boolean mayDoNext() {
        if (lines.waiting() == 0 || linesDone >= LINES_EVER) {
            return false;
        }
        return lines.kindOfNext() < BRACKET || sumsDone < SUMS_EVER;
    }

    private void leaveLine(int kind) {
        lines.leaveNext();
        linesDone++;
        if (kind >= BRACKET) {
            sumsDone++;
        }
    }

    /** Changes are made in `next` and `spare`, so that a line without room for its answer leaves no trace. */
    private void keepChange(int kind) {
        Diagram old = now;
        now = next;
        next = old;
        if (kind == BRAID) {
            Braid oldest = earlier;
            earlier = latest;
            latest = spare;
            spare = oldest;
        }
    }

    /** Prints what the line prints; whether `next` and `spare` are what comes of it. */
    private boolean perform(int kind) {
        switch (kind) {
            case CODE: return setCode();
            case BRAID: return setBraid();
            case UNDO: return undoFace();
            case SIMPLIFY: return simplify();
            case SHOW: paper.putDiagram(now); return false;
            case COUNT: printCount(); return false;
            case FACES: printFaces(); return false;
            case BRACKET:
            case JONES:
            case ALEXANDER: measure(kind); return false;
            default: break;
        }
        next.copy(now);
        boolean can = move(kind);
        paper.putAnswer(can ? "ok" : "no");
        return can;
    }

    private boolean move(int kind) {
        Shape shape = now.shape();
        int first = lines.number(0);
        switch (kind) {
            case SLIDE: return moves.slide(shape, next, first);
            case TWIST: return moves.twist(shape, next, first, lines.number(1), lines.number(2) == 1);
            case PUSH: return moves.push(shape, next, first, lines.number(2), lines.number(1) == 1);
            case MIRROR: return next.mirror();
            case REVERSE: return moves.reverse(shape, next, first);
            case CHANGE: return next.change(first);
            case SMOOTH: return next.smooth(first);
            case NUMBER: return moves.renumber(shape, next);
            default: return false;
        }
    }

    private boolean setCode() {
        if (!next.setCode(lines)) {
            paper.putAnswer("no 0");
            return false;
        }
        Shape shape = next.shape();
        if (shape.brokenRule == 0) {
            paper.putAnswer("ok");
            return true;
        }
        paper.putText("# no");
        paper.putSpaced(shape.brokenRule);
        paper.putSpaced(shape.culprit);
        paper.putEnd();
        return false;
    }

    private boolean setBraid() {
        boolean can = spare.setWord(lines);
        if (can) {
            spare.close(next);
        }
        paper.putAnswer(can ? "ok" : "no");
        return can;
    }

    private boolean undoFace() {
        int gone = moves.undo(now.shape(), now, next, lines.number(0));
        if (gone == 0) {
            paper.putAnswer("no");
            return false;
        }
        printUndone(gone);
        return true;
    }

    private boolean simplify() {
        next.copy(now);
        int gone = 0;
        int step = 1;
        for (int round = 0; round < MAX_CROSSINGS && step > 0; round++) {
            step = 0;
            Shape shape = next.shape();
            for (int face = 0; face < shape.faces && step == 0; face++) {
                step = moves.undo(shape, next, trial, face);
            }
            if (step > 0) {
                Diagram undone = trial;
                trial = next;
                next = undone;
                gone += step;
            }
        }
        printUndone(gone);
        return true;
    }

    private void printUndone(int gone) {
        paper.putText("# undone");
        paper.putSpaced(gone);
        paper.putEnd();
    }

    private void printCount() {
        Shape shape = now.shape();
        paper.putText("#");
        paper.putSpaced(now.count);
        paper.putSpaced(now.circles);
        paper.putSpaced(shape.components + now.circles);
        paper.putSpaced(shape.pieces + now.circles);
        paper.putSpaced(shape.faces);
        paper.putSpaced(shape.findArcs() + now.circles);
        paper.putSpaced(shape.seifertRounds(now) + now.circles);
        paper.putSpaced(now.sumOfSigns());
        paper.putSpaced(shape.isAlternating() ? 1 : 0);
        paper.putEnd();
    }

    private void printFaces() {
        Shape shape = now.shape();
        paper.putText("#");
        paper.putSpaced(shape.faces);
        paper.putEnd();
        for (int face = 0; face < shape.faces; face++) {
            paper.putText("#");
            paper.putSpaced(face);
            paper.putSpaced(shape.deed(face));
            int dart = shape.faceStart[face];
            for (int i = 0; i < shape.faceSize[face]; i++) {
                paper.putSpaced(shape.dartNumber(dart));
                dart = shape.nextDart(dart);
            }
            paper.putEnd();
        }
    }

    private void measure(int kind) {
        if (now.circles > SUM_CIRCLES || now.count > SUM_CROSSINGS) {
            paper.putAnswer("many");
            return;
        }
        Shape shape = now.shape();
        if (kind == ALEXANDER) {
            minor.alexander(now, shape, polynomial);
        } else {
            stateSum.bracket(now, shape, polynomial);
            if (kind == JONES) {
                polynomial.timesFrame(-now.sumOfSigns());
            }
        }
        if (lines.numbers() == 0) {
            paper.putPolynomial(kind, polynomial);
        } else {
            paper.putAnswer(polynomial.isSumOf(lines) ? "yes" : "no");
        }
    }

    private static String wordOf(int kind) {
        switch (kind) {
            case CODE: return "code";
            case BRAID: return "braid";
            case UNDO: return "undo";
            case SLIDE: return "slide";
            case TWIST: return "twist";
            case PUSH: return "push";
            case SIMPLIFY: return "simplify";
            case MIRROR: return "mirror";
            case REVERSE: return "reverse";
            case CHANGE: return "change";
            case SMOOTH: return "smooth";
            case NUMBER: return "number";
            case SHOW: return "show";
            case COUNT: return "count";
            case FACES: return "faces";
            case BRACKET: return "bracket";
            case JONES: return "jones";
            case ALEXANDER: return "alexander";
            default: return "";
        }
    }

    private static String variableOf(int kind) {
        return kind == ALEXANDER ? "t" : "A";
    }

    /** The lines of the text read last, and which of them wait. */
    private static final class Lines {
        private final int[] kind = new int[MAX_LINES];
        private final int[] start = new int[MAX_LINES + 1];
        // A text has fewer numbers than bytes: a line's word is longer than what it adds.
        private final long[] value = new long[ROOM];
        private int count;
        private int done;

        void clear() {
            count = 0;
            done = 0;
        }

        boolean isFull() {
            return count >= MAX_LINES;
        }

        void open(int newKind) {
            if (count < MAX_LINES) {
                kind[count] = newKind;
                start[count + 1] = start[count];
                count++;
            }
        }

        void add(long number) {
            int end = start[count];
            if (count > 0 && end < ROOM) {
                value[end] = number;
                start[count] = end + 1;
            }
        }

        int kindOfLast() {
            return count > 0 ? kind[count - 1] : 0;
        }

        int waiting() {
            return count - done;
        }

        int kindOfNext() {
            return done < count ? kind[done] : 0;
        }

        void leaveNext() {
            if (done < count) {
                done++;
            }
        }

        int numbers() {
            return done < count ? start[done + 1] - start[done] : 0;
        }

        long longNumber(int i) {
            if (done >= count || i < 0 || i >= start[done + 1] - start[done]) {
                return 0;
            }
            return value[start[done] + i];
        }

        int number(int i) {
            return (int) longNumber(i);
        }
    }

    /** Reads a text into lines, or finds its first fault: tokens are looked at by their places. */
    private static final class Reader {
        private static final int END = 0;
        private static final int STRAY = 1;
        private static final int WORD = 2;
        private static final int DIGITS = 3;
        private static final int MARK = 4;
        private static final int MAX_DIGITS = 18;
        private static final int MAX_PLAIN = 9999;

        private final int[] text = new int[ROOM];
        private final Lines lines = new Lines();
        private int size;
        private int behind;
        private int token;
        private int place;
        private long value;
        private boolean misshapen;
        private int faultFound;
        private int faultPlace = -1;

        void begin(int n) {
            size = n;
            behind = 0;
            faultFound = 0;
            faultPlace = -1;
            lines.clear();
        }

        boolean hasMore() {
            return behind < size && faultFound == 0;
        }

        /** Whether a line begins; its end is passed over when it has no tokens. */
        boolean beginLine() {
            advance();
            if (token == END) {
                behind = place + 1;
                return false;
            }
            int kind = kindOfWord();
            if (kind == 0) {
                return refuse(3);
            }
            if (lines.isFull()) {
                return refuse(5);
            }
            lines.open(kind);
            advance();
            return true;
        }

        void readRest(int kind) {
            boolean good = true;
            switch (kind) {
                case CODE: good = readCode(); break;
                case BRAID: good = readNumber(false) && readLetters(); break;
                case TWIST: good = readNumber(false) && readSign() && readSide(); break;
                case PUSH: good = readNumber(true) && readSide() && readNumber(true); break;
                case UNDO:
                case SLIDE:
                case REVERSE:
                case CHANGE:
                case SMOOTH: good = readNumber(false); break;
                case BRACKET:
                case JONES:
                case ALEXANDER: good = token == END || readSum(variableOf(kind)); break;
                default: break;
            }
            if (good && token != END) {
                refuse(4);
            }
            // Of a line without a fault the token is its end now.
            behind = place + 1;
        }

        private boolean readCode() {
            for (int i = 0; i <= MAX_CROSSINGS && isSign(); i++) {
                if (i == MAX_CROSSINGS) {
                    return refuse(5);
                }
                if (!readCrossing()) {
                    return false;
                }
            }
            if (isWord("o")) {
                advance();
                return readNumber(false);
            }
            lines.add(0);
            return true;
        }

        private boolean readCrossing() {
            return readSign() && readMark('[') && readNumber(false) && readMark(',') && readNumber(false)
                && readMark(',') && readNumber(false) && readMark(',') && readNumber(false) && readMark(']');
        }

        private boolean readLetters() {
            for (int i = 0; i <= MAX_LETTERS_READ && (token == DIGITS || isMark('-')); i++) {
                if (i == MAX_LETTERS_READ) {
                    return refuse(5);
                }
                if (!readNumber(true)) {
                    return false;
                }
            }
            return true;
        }

        private boolean readSum(String variable) {
            if (!readMark('=')) {
                return false;
            }
            int sign = 1;
            if (isMark('-')) {
                sign = -1;
                advance();
            }
            if (!readTerm(sign, variable)) {
                return false;
            }
            for (int terms = 1; terms <= MAX_TERMS && isSign(); terms++) {
                if (terms == MAX_TERMS) {
                    return refuse(5);
                }
                sign = isMark('-') ? -1 : 1;
                advance();
                if (!readTerm(sign, variable)) {
                    return false;
                }
            }
            return true;
        }

        private boolean readTerm(int sign, String variable) {
            long coefficient = 1;
            boolean hasNumber = token == DIGITS;
            if (hasNumber) {
                if (misshapen) {
                    return refuse(2);
                }
                coefficient = value;
                advance();
            }
            lines.add(sign * coefficient);
            if (!isWord(variable)) {
                lines.add(0);
                return hasNumber || refuse(4);
            }
            advance();
            if (!isMark('^')) {
                lines.add(1);
                return true;
            }
            advance();
            return readNumber(true);
        }

        private boolean readNumber(boolean maybeNegative) {
            int sign = 1;
            if (maybeNegative && isMark('-')) {
                sign = -1;
                advance();
            }
            if (token != DIGITS || misshapen || value > MAX_PLAIN) {
                return refuse(4);
            }
            lines.add(sign * value);
            advance();
            return true;
        }

        private boolean readSign() {
            if (!isSign()) {
                return refuse(4);
            }
            lines.add(isMark('-') ? -1 : 1);
            advance();
            return true;
        }

        private boolean readSide() {
            boolean over = isWord("over");
            if (!over && !isWord("under")) {
                return refuse(4);
            }
            lines.add(over ? 1 : 0);
            advance();
            return true;
        }

        private boolean readMark(char mark) {
            if (!isMark(mark)) {
                return refuse(4);
            }
            advance();
            return true;
        }

        private boolean isMark(char mark) {
            return token == MARK && value == mark;
        }

        private boolean isSign() {
            return isMark('+') || isMark('-');
        }

        private boolean isWord(String word) {
            if (token != WORD || behind - place != word.length()) {
                return false;
            }
            for (int i = 0; i < word.length(); i++) {
                if (text[place + i] != word.charAt(i)) {
                    return false;
                }
            }
            return true;
        }

        private int kindOfWord() {
            for (int kind = CODE; kind <= ALEXANDER; kind++) {
                if (isWord(wordOf(kind))) {
                    return kind;
                }
            }
            return 0;
        }

        /** Of several faults at one place the least one counts, whatever was looked for there. */
        private boolean refuse(int code) {
            faultPlace = place;
            if (token == STRAY) {
                faultFound = 1;
            } else if (token == DIGITS && (misshapen || value > MAX_PLAIN)) {
                faultFound = 2;
            } else {
                faultFound = code;
            }
            return false;
        }

        private void advance() {
            skipIdle();
            place = behind;
            int first = byteAt(place);
            if (first == 10) {
                token = END;
                return;
            }
            behind++;
            if (isStray(first)) {
                token = STRAY;
            } else if (isLetter(first)) {
                token = WORD;
                while (behind < size && isLetter(text[behind])) {
                    behind++;
                }
            } else if (first >= '0' && first <= '9') {
                token = DIGITS;
                takeDigits(first - '0');
            } else {
                token = MARK;
                value = first;
            }
        }

        /** The text's end is a line's end, too. */
        private int byteAt(int i) {
            return i >= 0 && i < size ? text[i] : 10;
        }

        /** Spaces and a remark do not count, but a stray byte does in a remark, too. */
        private void skipIdle() {
            while (behind < size && text[behind] == ' ') {
                behind++;
            }
            if (behind < size && text[behind] == '#') {
                while (behind < size && text[behind] >= 32 && text[behind] <= 126) {
                    behind++;
                }
            }
        }

        /** Digits beyond the most that a number may have are not kept. */
        private void takeDigits(int first) {
            value = first;
            while (behind < size && text[behind] >= '0' && text[behind] <= '9') {
                if (behind - place < MAX_DIGITS) {
                    value = 10 * value + (text[behind] - '0');
                }
                behind++;
            }
            int digits = behind - place;
            misshapen = digits > MAX_DIGITS || digits > 1 && first == 0;
        }

        private static boolean isStray(int b) {
            return b < 32 || b > 126;
        }

        private static boolean isLetter(int b) {
            return b >= 'a' && b <= 'z' || b >= 'A' && b <= 'Z';
        }
    }

    /** What is printed. Bytes for which there is no room are only marked, so that a line can be taken back. */
    private static final class Paper {
        private static final int MAX_DIGITS = 20;

        private final int[] bytes = new int[ROOM];
        private final int[] digits = new int[MAX_DIGITS];
        private int size;
        private boolean overflown;

        void put(int b) {
            if (size < ROOM) {
                bytes[size] = b;
                size++;
            } else {
                overflown = true;
            }
        }

        void shrink(int newSize) {
            size = newSize;
            overflown = false;
        }

        void putEnd() {
            put(10);
        }

        void putText(String text) {
            for (int i = 0; i < text.length(); i++) {
                put(text.charAt(i));
            }
        }

        void putAnswer(String text) {
            putText("# ");
            putText(text);
            putEnd();
        }

        void putNumber(long number) {
            if (number < 0) {
                put('-');
            }
            long rest = number;
            int n = 0;
            do {
                digits[n] = (int) Math.abs(rest % 10);
                rest /= 10;
                n++;
            } while (rest != 0 && n < MAX_DIGITS);
            for (int i = n - 1; i >= 0; i--) {
                put('0' + digits[i]);
            }
        }

        void putSpaced(long number) {
            put(' ');
            putNumber(number);
        }

        void putDiagram(Diagram d) {
            putText(wordOf(CODE));
            for (int c = 0; c < d.count; c++) {
                putText(d.sign[c] > 0 ? " +[" : " -[");
                for (int q = 0; q < 4; q++) {
                    if (q > 0) {
                        putText(", ");
                    }
                    putNumber(d.label[4 * c + q]);
                }
                put(']');
            }
            if (d.circles > 0) {
                putText(" o");
                putSpaced(d.circles);
            }
            putEnd();
        }

        void putPolynomial(int kind, Polynomial p) {
            putText(wordOf(kind));
            putText(" = ");
            boolean first = true;
            for (int e = p.lowest(); e <= p.highest(); e++) {
                long coefficient = p.coefficient(e);
                if (coefficient != 0) {
                    putTermSign(coefficient < 0, first);
                    putTerm(Math.abs(coefficient), e, variableOf(kind));
                    first = false;
                }
            }
            if (first) {
                put('0');
            }
            putEnd();
        }

        private void putTermSign(boolean negative, boolean first) {
            if (first) {
                putText(negative ? "-" : "");
            } else {
                putText(negative ? " - " : " + ");
            }
        }

        private void putTerm(long coefficient, int exponent, String variable) {
            if (coefficient != 1 || exponent == 0) {
                putNumber(coefficient);
            }
            if (exponent != 0) {
                putText(variable);
            }
            if (exponent != 0 && exponent != 1) {
                put('^');
                putNumber(exponent);
            }
        }
    }

    /** Crossings with the labels of their places, place q of crossing c at 4 c + q, and circles. */
    private static final class Diagram {
        private final int[] sign = new int[MAX_CROSSINGS];
        private final int[] label = new int[PLACES];
        private final Shape shape = new Shape();
        private int count;
        private int circles;
        private boolean shapeIsKnown;

        /** What the labels mean; found when it is asked for, as many lines do not ask. */
        Shape shape() {
            if (!shapeIsKnown) {
                shapeIsKnown = true;
                shape.clear();
                shape.sortPlaces(this);
                if (shape.labelsArePaired(4 * count) && shape.edgesHaveDirections(this)) {
                    shape.findPieces(count);
                    shape.findFaces();
                    shape.findComponents();
                    shape.checkSpheres(count);
                }
            }
            return shape;
        }

        void clear() {
            count = 0;
            circles = 0;
            shapeIsKnown = false;
        }

        void copy(Diagram other) {
            count = other.count;
            circles = other.circles;
            shapeIsKnown = false;
            System.arraycopy(other.sign, 0, sign, 0, count);
            System.arraycopy(other.label, 0, label, 0, 4 * count);
        }

        /** False when a label is 0 or there are too many circles. */
        boolean setCode(Lines lines) {
            clear();
            int crossings = lines.numbers() / 5;
            boolean good = true;
            for (int c = 0; c < crossings && c < MAX_CROSSINGS; c++) {
                sign[c] = lines.number(5 * c);
                for (int q = 0; q < 4; q++) {
                    label[4 * c + q] = lines.number(5 * c + 1 + q);
                    good = good && label[4 * c + q] != 0;
                }
                count++;
            }
            circles = lines.number(5 * crossings);
            return good && circles <= MAX_CIRCLES;
        }

        int upperIn(int c) {
            return 4 * c + (sign[c] > 0 ? 3 : 1);
        }

        int upperOut(int c) {
            return 4 * c + (sign[c] > 0 ? 1 : 3);
        }

        boolean isOut(int place) {
            return (place & 3) == 2 || place == upperOut(place >> 2);
        }

        int sumOfSigns() {
            int sum = 0;
            for (int c = 0; c < count; c++) {
                sum += sign[c];
            }
            return sum;
        }

        /** A crossing behind the others, of a first and a second pass, each with its edges in and out. */
        void addCrossing(int itsSign, boolean firstAbove, int in, int out, int secondIn, int secondOut) {
            if (count >= MAX_CROSSINGS) {
                return;
            }
            int c = count;
            count++;
            shapeIsKnown = false;
            sign[c] = itsSign;
            label[4 * c] = firstAbove ? secondIn : in;
            label[4 * c + 2] = firstAbove ? secondOut : out;
            label[upperIn(c)] = firstAbove ? in : secondIn;
            label[upperOut(c)] = firstAbove ? out : secondOut;
        }

        void lift(int c) {
            int last = moveToEnd(c);
            joinAt(4 * last, 4 * last + 2);
            joinAt(upperIn(last), upperOut(last));
            count--;
        }

        boolean smooth(int c) {
            if (c < 0 || c >= count) {
                return false;
            }
            int last = moveToEnd(c);
            joinAt(4 * last, upperOut(last));
            joinAt(upperIn(last), 4 * last + 2);
            count--;
            return circles <= MAX_CIRCLES;
        }

        boolean mirror() {
            for (int c = 0; c < count; c++) {
                change(c);
            }
            return true;
        }

        boolean change(int c) {
            if (c < 0 || c >= count) {
                return false;
            }
            turnPlaces(c, upperIn(c) & 3);
            sign[c] = -sign[c];
            return true;
        }

        /** The places begin with what was place q. */
        void turnPlaces(int c, int q) {
            shapeIsKnown = false;
            for (int i = 0; i < q && i < 4; i++) {
                int first = label[4 * c];
                label[4 * c] = label[4 * c + 1];
                label[4 * c + 1] = label[4 * c + 2];
                label[4 * c + 2] = label[4 * c + 3];
                label[4 * c + 3] = first;
            }
        }

        void rename(int old, int name) {
            shapeIsKnown = false;
            for (int i = 0; i < 4 * count; i++) {
                if (label[i] == old) {
                    label[i] = name;
                }
            }
        }

        /** A crossing that is to go stands last, so that its labels are renamed with the others until then. */
        private int moveToEnd(int c) {
            shapeIsKnown = false;
            for (int k = c; k + 1 < count; k++) {
                int s = sign[k];
                sign[k] = sign[k + 1];
                sign[k + 1] = s;
                for (int i = 4 * k; i < 4 * k + 4; i++) {
                    int l = label[i];
                    label[i] = label[i + 4];
                    label[i + 4] = l;
                }
            }
            return count - 1;
        }

        private void joinAt(int place, int other) {
            int a = label[place];
            int b = label[other];
            if (a == b) {
                circles++;
            } else {
                rename(Math.max(a, b), Math.min(a, b));
            }
        }
    }

    /** What a diagram's labels mean: its edges in the order of their labels, pieces, faces, components. */
    private static final class Shape {
        private static final int PLACE_BITS = 7;

        private final int[] key = new int[PLACES];
        private final int[] name = new int[EDGES];
        private final int[] from = new int[EDGES];
        private final int[] to = new int[EDGES];
        private final int[] edgeAt = new int[PLACES];
        private final int[] componentOf = new int[EDGES];
        private final int[] arcOf = new int[EDGES];
        private final int[] pieceOf = new int[MAX_CROSSINGS];
        private final int[] faceOf = new int[PLACES];
        private final int[] faceStart = new int[PLACES];
        private final int[] faceSize = new int[PLACES];
        private final int[] scratch = new int[PLACES];
        private int edges;
        private int components;
        private int pieces;
        private int faces;
        private int brokenRule;
        private int culprit;

        void clear() {
            edges = 0;
            components = 0;
            pieces = 0;
            faces = 0;
            brokenRule = 0;
            culprit = 0;
        }

        /** By label first, as edges, faces and components are numbered so. */
        void sortPlaces(Diagram d) {
            for (int place = 0; place < 4 * d.count; place++) {
                int k = d.label[place] << PLACE_BITS | place;
                int i = place;
                while (i > 0 && key[i - 1] > k) {
                    key[i] = key[i - 1];
                    i--;
                }
                key[i] = k;
            }
        }

        private int labelOfKey(int i) {
            return key[i] >> PLACE_BITS;
        }

        private int placeOfKey(int i) {
            return key[i] & (1 << PLACE_BITS) - 1;
        }

        boolean labelsArePaired(int places) {
            for (int i = 0; i < places; i += 2) {
                int l = labelOfKey(i);
                boolean single = i + 1 >= places || labelOfKey(i + 1) != l;
                boolean more = i + 2 < places && labelOfKey(i + 2) == l;
                if (single || more) {
                    return breaks(1, l);
                }
            }
            return true;
        }

        boolean edgesHaveDirections(Diagram d) {
            for (int e = 0; e < 2 * d.count; e++) {
                int p = placeOfKey(2 * e);
                int q = placeOfKey(2 * e + 1);
                name[e] = labelOfKey(2 * e);
                if (d.isOut(p) == d.isOut(q)) {
                    return breaks(2, name[e]);
                }
                from[e] = d.isOut(p) ? p : q;
                to[e] = d.isOut(p) ? q : p;
                edgeAt[p] = e;
                edgeAt[q] = e;
            }
            edges = 2 * d.count;
            return true;
        }

        private boolean breaks(int rule, int number) {
            brokenRule = rule;
            culprit = number;
            return false;
        }

        /** A piece goes by its least crossing. */
        void findPieces(int crossings) {
            for (int c = 0; c < crossings; c++) {
                pieceOf[c] = c;
            }
            pieces = crossings;
            for (int e = 0; e < edges; e++) {
                int one = pieceOf[from[e] >> 2];
                int other = pieceOf[to[e] >> 2];
                if (one != other) {
                    int least = Math.min(one, other);
                    for (int c = 0; c < crossings; c++) {
                        pieceOf[c] = pieceOf[c] == one || pieceOf[c] == other ? least : pieceOf[c];
                    }
                    pieces--;
                }
            }
        }

        void findFaces() {
            Arrays.fill(faceOf, -1);
            for (int start = 0; start < 2 * edges; start++) {
                if (faceOf[start] < 0) {
                    int dart = start;
                    int size = 0;
                    while (size < PLACES && faceOf[dart] < 0) {
                        faceOf[dart] = faces;
                        size++;
                        dart = nextDart(dart);
                    }
                    faceStart[faces] = start;
                    faceSize[faces] = size;
                    faces++;
                }
            }
        }

        void findComponents() {
            Arrays.fill(componentOf, -1);
            for (int start = 0; start < edges; start++) {
                if (componentOf[start] < 0) {
                    int e = start;
                    for (int i = 0; i < edges && componentOf[e] < 0; i++) {
                        componentOf[e] = components;
                        e = nextEdge(e);
                    }
                    components++;
                }
            }
        }

        /** On a sphere a piece has two faces more than crossings. */
        void checkSpheres(int crossings) {
            Arrays.fill(scratch, -2);
            for (int face = 0; face < faces; face++) {
                scratch[pieceOfEdge(faceStart[face] >> 1)]++;
            }
            for (int c = 0; c < crossings; c++) {
                scratch[pieceOf[c]]--;
            }
            for (int c = 0; c < crossings && brokenRule == 0; c++) {
                if (scratch[pieceOf[c]] != 0) {
                    breaks(3, c);
                }
            }
        }

        int pieceOfEdge(int e) {
            return pieceOf[from[e] >> 2];
        }

        int edgeNamed(int label) {
            for (int e = 0; e < edges; e++) {
                if (name[e] == label) {
                    return e;
                }
            }
            return -1;
        }

        int nextEdge(int e) {
            return edgeAt[to[e] ^ 2];
        }

        /** Darts are 2 e along the edge e and 2 e + 1 against it: so they are in their order. */
        int arrival(int dart) {
            return (dart & 1) == 0 ? to[dart >> 1] : from[dart >> 1];
        }

        int nextDart(int dart) {
            int place = arrival(dart);
            int leaving = place & ~3 | place + 3 & 3;
            int e = edgeAt[leaving];
            return from[e] == leaving ? 2 * e : 2 * e + 1;
        }

        int dartNumber(int dart) {
            int l = name[dart >> 1];
            return (dart & 1) == 0 ? l : -l;
        }

        private static boolean isUpper(int place) {
            return (place & 1) == 1;
        }

        /** What can be done at a face: 1 or 2 to undo so many crossings, 3 to slide, 0 nothing. */
        int deed(int face) {
            int size = faceSize[face];
            if (size == 1) {
                return 1;
            }
            if (size > 3) {
                return 0;
            }
            int above = 0;
            int below = 0;
            int crossings = 0;
            int dart = faceStart[face];
            for (int i = 0; i < size; i++) {
                int e = dart >> 1;
                above += isUpper(from[e]) && isUpper(to[e]) ? 1 : 0;
                below += isUpper(from[e]) || isUpper(to[e]) ? 0 : 1;
                crossings |= 1 << (arrival(dart) >> 2);
                dart = nextDart(dart);
            }
            return above == 1 && below == 1 && Integer.bitCount(crossings) == size ? size : 0;
        }

        /** Numbers the arcs that have edges: how many. Those with ends come first, one for each crossing. */
        int findArcs() {
            int arcs = 0;
            Arrays.fill(arcOf, -1);
            for (int e = 0; e < edges; e++) {
                if (!isUpper(from[e])) {
                    fillArc(e, arcs);
                    arcs++;
                }
            }
            for (int e = 0; e < edges; e++) {
                if (arcOf[e] < 0) {
                    fillArc(e, arcs);
                    arcs++;
                }
            }
            return arcs;
        }

        private void fillArc(int start, int arc) {
            int e = start;
            arcOf[e] = arc;
            for (int i = 0; i < edges && isUpper(to[e]); i++) {
                e = nextEdge(e);
                arcOf[e] = arc;
            }
        }

        int seifertRounds(Diagram d) {
            int rounds = 0;
            Arrays.fill(scratch, 0);
            for (int start = 0; start < edges; start++) {
                if (scratch[start] == 0) {
                    int e = start;
                    for (int i = 0; i < edges && scratch[e] == 0; i++) {
                        scratch[e] = 1;
                        int c = to[e] >> 2;
                        e = edgeAt[isUpper(to[e]) ? 4 * c + 2 : d.upperOut(c)];
                    }
                    rounds++;
                }
            }
            return rounds;
        }

        boolean isAlternating() {
            for (int e = 0; e < edges; e++) {
                if (isUpper(from[e]) == isUpper(to[e])) {
                    return false;
                }
            }
            return true;
        }

        /** The least labels that no edge has; edges lie in the order of their labels. */
        void findFree(int[] free) {
            int e = 0;
            int found = 0;
            for (int l = 1; found < free.length && l <= EDGES + free.length; l++) {
                if (e < edges && name[e] == l) {
                    e++;
                } else {
                    free[found] = l;
                    found++;
                }
            }
        }
    }

    /** Moves that have to know a diagram's shape: each takes that shape, and a copy of the diagram to change. */
    private static final class Moves {
        private final int[] free = new int[4];

        /** How many crossings are gone in the copy; 0 when it can't be done (the copy is of no use then). */
        int undo(Shape shape, Diagram d, Diagram copy, int face) {
            int deed = face >= 0 && face < shape.faces ? shape.deed(face) : 0;
            if (deed != 1 && deed != 2) {
                return 0;
            }
            int dart = shape.faceStart[face];
            int one = shape.arrival(dart) >> 2;
            int other = shape.arrival(shape.nextDart(dart)) >> 2;
            copy.copy(d);
            copy.lift(Math.min(one, other));
            if (deed == 2) {
                copy.lift(Math.max(one, other) - 1);
            }
            return copy.circles <= MAX_CIRCLES ? deed : 0;
        }

        boolean slide(Shape shape, Diagram d, int face) {
            if (face < 0 || face >= shape.faces || shape.deed(face) != 3) {
                return false;
            }
            int dart = shape.faceStart[face];
            for (int i = 0; i < 3; i++) {
                slideEdge(shape, d, dart >> 1);
                dart = shape.nextDart(dart);
            }
            return true;
        }

        /** Each of the three edges has places of its own, so old labels are read from the shape, one edge after another. */
        private void slideEdge(Shape shape, Diagram d, int middle) {
            int out = shape.from[middle];
            int in = shape.to[middle];
            int ahead = shape.name[shape.edgeAt[out ^ 2]];
            int behind = shape.name[shape.edgeAt[in ^ 2]];
            d.label[out ^ 2] = shape.name[middle];
            d.label[out] = behind;
            d.label[in] = ahead;
            d.label[in ^ 2] = shape.name[middle];
        }

        boolean twist(Shape shape, Diagram d, int label, int sign, boolean over) {
            if (d.count >= MAX_CROSSINGS) {
                return false;
            }
            shape.findFree(free);
            int loop = free[0];
            int last = free[1];
            if (label == 0) {
                if (d.circles == 0) {
                    return false;
                }
                d.circles--;
                d.addCrossing(sign, over, last, loop, loop, last);
                return true;
            }
            int e = shape.edgeNamed(label);
            if (e < 0) {
                return false;
            }
            d.label[shape.to[e]] = last;
            d.addCrossing(sign, over, label, loop, loop, last);
            return true;
        }

        boolean push(Shape shape, Diagram d, int x, int y, boolean over) {
            int xEdge = shape.edgeNamed(Math.abs(x));
            int yEdge = shape.edgeNamed(Math.abs(y));
            if (d.count + 2 > MAX_CROSSINGS || !canMeet(shape, xEdge, x < 0, yEdge, y < 0)) {
                return false;
            }
            shape.findFree(free);
            d.label[shape.to[xEdge]] = free[1];
            d.label[shape.to[yEdge]] = free[3];
            boolean alike = x > 0 == y > 0;
            int sign = alike == over ? 1 : -1;
            pushCrossing(d, sign, over, x, y, true);
            pushCrossing(d, -sign, over, x, y, false);
            return true;
        }

        private boolean canMeet(Shape shape, int xEdge, boolean xAgainst, int yEdge, boolean yAgainst) {
            if (xEdge < 0 || yEdge < 0 || xEdge == yEdge) {
                return false;
            }
            int xFace = shape.faceOf[2 * xEdge + (xAgainst ? 1 : 0)];
            int yFace = shape.faceOf[2 * yEdge + (yAgainst ? 1 : 0)];
            return xFace == yFace || shape.pieceOfEdge(xEdge) != shape.pieceOfEdge(yEdge);
        }

        /** x comes to M first, y to N; along its own direction an edge comes to the one or the other first. */
        private void pushCrossing(Diagram d, int sign, boolean over, int x, int y, boolean isM) {
            boolean xFirst = x > 0 == isM;
            boolean yFirst = y > 0 != isM;
            int xIn = xFirst ? Math.abs(x) : free[0];
            int xOut = xFirst ? free[0] : free[1];
            int yIn = yFirst ? Math.abs(y) : free[2];
            int yOut = yFirst ? free[2] : free[3];
            d.addCrossing(sign, over, xIn, xOut, yIn, yOut);
        }

        boolean reverse(Shape shape, Diagram d, int component) {
            if (component < 0 || component >= shape.components + d.circles) {
                return false;
            }
            for (int c = 0; c < d.count; c++) {
                boolean lower = shape.componentOf[shape.edgeAt[4 * c]] == component;
                boolean upper = shape.componentOf[shape.edgeAt[4 * c + 1]] == component;
                if (lower) {
                    d.turnPlaces(c, 2);
                }
                if (lower != upper) {
                    d.sign[c] = -d.sign[c];
                }
            }
            return true;
        }

        boolean renumber(Shape shape, Diagram d) {
            int label = 1;
            int component = 0;
            for (int start = 0; start < shape.edges; start++) {
                // The least edge of a component is the first one with its number.
                if (shape.componentOf[start] == component) {
                    int e = start;
                    for (int i = 0; i < shape.edges && (i == 0 || e != start); i++) {
                        d.label[shape.from[e]] = label;
                        d.label[shape.to[e]] = label;
                        label++;
                        e = shape.nextEdge(e);
                    }
                    component++;
                }
            }
            return true;
        }
    }

    /** A braid word, its closure and its normal form. Places are counted from 0 on inside. */
    private static final class Braid {
        private static final int MAX_PASSES = 64;

        private final int[] letter = new int[MAX_LETTERS];
        private final int[] image = new int[(MAX_LETTERS + 1) * MAX_STRANDS];
        private final int[] end = new int[MAX_STRANDS];
        private int strands = 1;
        private int letters;
        private int turns;
        private int factors;
        private boolean formIsKnown;

        /** False when the line's numbers are no word. */
        boolean setWord(Lines lines) {
            int first = lines.number(0);
            int n = lines.numbers() - 1;
            if (first < 1 || first > MAX_STRANDS || n > MAX_LETTERS) {
                return false;
            }
            for (int i = 0; i < n; i++) {
                letter[i] = lines.number(i + 1);
                int value = Math.abs(letter[i]);
                if (value < 1 || value >= first) {
                    return false;
                }
            }
            strands = first;
            letters = n;
            formIsKnown = false;
            return true;
        }

        void close(Diagram d) {
            d.clear();
            for (int p = 0; p < strands; p++) {
                end[p] = p + 1;
            }
            for (int k = 0; k < letters; k++) {
                int right = Math.abs(letter[k]);
                int left = right - 1;
                int newLeft = strands + 2 * k + 1;
                int newRight = newLeft + 1;
                int sign = letter[k] > 0 ? 1 : -1;
                d.addCrossing(sign, sign < 0, end[left], newRight, end[right], newLeft);
                end[left] = newLeft;
                end[right] = newRight;
            }
            for (int p = 0; p < strands; p++) {
                if (end[p] == p + 1) {
                    d.circles++;
                } else {
                    d.rename(end[p], p + 1);
                }
            }
        }

        int simpleBraids() {
            findForm();
            return factors;
        }

        int formAt(int j, int p) {
            findForm();
            if (j == 0) {
                return turns;
            }
            if (j < 0 || j > factors || p < 1 || p > strands) {
                return 0;
            }
            return image[(j - 1) * MAX_STRANDS + p - 1] + 1;
        }

        boolean isOneBraidWith(Braid other) {
            findForm();
            other.findForm();
            if (strands != other.strands || turns != other.turns || factors != other.factors) {
                return false;
            }
            for (int j = 0; j < factors; j++) {
                for (int p = 0; p < strands; p++) {
                    if (image[j * MAX_STRANDS + p] != other.image[j * MAX_STRANDS + p]) {
                        return false;
                    }
                }
            }
            return true;
        }

        private void findForm() {
            if (formIsKnown) {
                return;
            }
            turns = 0;
            factors = 0;
            for (int i = 0; i < letters; i++) {
                if (letter[i] > 0) {
                    appendSwap(letter[i] - 1);
                } else {
                    appendInverseSwap(-letter[i] - 1);
                }
                settle();
            }
            formIsKnown = true;
        }

        private void appendSwap(int i) {
            int at = factors * MAX_STRANDS;
            for (int p = 0; p < strands; p++) {
                image[at + p] = p;
            }
            image[at + i] = i + 1;
            image[at + i + 1] = i;
            factors++;
        }

        /** A swap's inverse is TURN's inverse and then TURN without its last swap; TURN's inverse goes to the front. */
        private void appendInverseSwap(int i) {
            for (int j = 0; j < factors; j++) {
                conjugateByTurn(j * MAX_STRANDS);
            }
            turns--;
            int at = factors * MAX_STRANDS;
            for (int p = 0; p < strands; p++) {
                image[at + p] = strands - 1 - p;
            }
            image[at + strands - 1 - i] = i + 1;
            image[at + strands - 2 - i] = i;
            factors++;
        }

        private void conjugateByTurn(int at) {
            int last = strands - 1;
            for (int p = 0; p <= last - p; p++) {
                int one = image[at + p];
                image[at + p] = last - image[at + last - p];
                image[at + last - p] = last - one;
            }
        }

        /** Only the last simple braid is new, so one way from it to the front is enough. */
        private void settle() {
            for (int j = factors - 2; j >= 0; j--) {
                if (!shiftCrossings(j * MAX_STRANDS)) {
                    break;
                }
            }
            for (int j = factors - 1; j >= 0 && isNone(j * MAX_STRANDS); j--) {
                factors--;
            }
            int full = 0;
            while (full < factors && isTurn(full * MAX_STRANDS)) {
                full++;
            }
            turns += full;
            factors -= full;
            System.arraycopy(image, full * MAX_STRANDS, image, 0, factors * MAX_STRANDS);
        }

        /** Crossings that the simple braid behind begins with go to the one at `s`, as long as it takes them. */
        private boolean shiftCrossings(int s) {
            int t = s + MAX_STRANDS;
            for (int p = 0; p < strands; p++) {
                end[image[s + p]] = p;
            }
            boolean any = false;
            boolean moved = true;
            for (int pass = 0; pass < MAX_PASSES && moved; pass++) {
                moved = false;
                for (int i = 0; i + 1 < strands; i++) {
                    if (image[t + i] > image[t + i + 1] && end[i] < end[i + 1]) {
                        moveSwap(s, t, i);
                        moved = true;
                        any = true;
                    }
                }
            }
            return any;
        }

        private void moveSwap(int s, int t, int i) {
            int one = end[i];
            int other = end[i + 1];
            image[s + one] = i + 1;
            image[s + other] = i;
            end[i] = other;
            end[i + 1] = one;
            int first = image[t + i];
            image[t + i] = image[t + i + 1];
            image[t + i + 1] = first;
        }

        private boolean isNone(int at) {
            for (int p = 0; p < strands; p++) {
                if (image[at + p] != p) {
                    return false;
                }
            }
            return true;
        }

        private boolean isTurn(int at) {
            for (int p = 0; p < strands; p++) {
                if (image[at + p] != strands - 1 - p) {
                    return false;
                }
            }
            return true;
        }
    }

    /** A polynomial: whole coefficients of exponents near 0, all of them raised and signed together. */
    private static final class Polynomial {
        // 10 crossings have states of up to 20 closed ways, with 9 circles more: |exponent| is at most 10 + 2 * 28.
        private static final int REACH = 80;
        private static final long HALF = 1000000000L;

        private final long[] term = new long[2 * REACH + 1];
        private int raise;
        private int sign = 1;

        void clear() {
            Arrays.fill(term, 0);
            raise = 0;
            sign = 1;
        }

        void add(int exponent, long value) {
            if (Math.abs(exponent) <= REACH) {
                term[exponent + REACH] += value;
            }
        }

        int lowest() {
            return raise - REACH;
        }

        int highest() {
            return raise + REACH;
        }

        long coefficient(int exponent) {
            if (exponent < lowest() || exponent > highest()) {
                return 0;
            }
            return sign * term[exponent - raise + REACH];
        }

        /** Times - A^2 - A^-2, when all exponents are of the same parity as `reach` and none is beyond it. */
        void timesCircle(int reach) {
            long left = 0;
            for (int e = -reach - 2; e <= reach + 2 && reach + 4 <= REACH; e += 2) {
                long here = term[e + REACH];
                term[e + REACH] = -left - term[e + 2 + REACH];
                left = here;
            }
        }

        /** Times (- A^3) to a power. */
        void timesFrame(int power) {
            raise += 3 * power;
            if ((power & 1) == 1) {
                sign = -sign;
            }
        }

        void makeNormal() {
            for (int i = 0; i < term.length; i++) {
                if (term[i] != 0) {
                    raise = REACH - i;
                    sign = term[i] > 0 ? 1 : -1;
                    return;
                }
            }
        }

        /** Whether the line's terms, added up, are just this polynomial. */
        boolean isSumOf(Lines lines) {
            int terms = lines.numbers() / 2;
            int met = 0;
            for (int i = 0; i < terms; i++) {
                int exponent = lines.number(2 * i + 1);
                if (isFirstOf(lines, i, exponent)) {
                    if (!isSumAt(lines, i, terms, exponent)) {
                        return false;
                    }
                    met += coefficient(exponent) != 0 ? 1 : 0;
                }
            }
            return met == countTerms();
        }

        private static boolean isFirstOf(Lines lines, int i, int exponent) {
            for (int k = 0; k < i; k++) {
                if (lines.number(2 * k + 1) == exponent) {
                    return false;
                }
            }
            return true;
        }

        /** Sums may go beyond a long, so the halves of the coefficients are added up apart. */
        private boolean isSumAt(Lines lines, int start, int terms, int exponent) {
            long high = 0;
            long low = 0;
            for (int i = start; i < terms; i++) {
                if (lines.number(2 * i + 1) == exponent) {
                    long value = lines.longNumber(2 * i);
                    high += value / HALF;
                    low += value % HALF;
                }
            }
            long rest = coefficient(exponent) - low;
            return rest % HALF == 0 && rest / HALF == high;
        }

        private int countTerms() {
            int n = 0;
            for (int i = 0; i < term.length; i++) {
                n += term[i] != 0 ? 1 : 0;
            }
            return n;
        }
    }

    /** The bracket as a sum over states, counted by their powers of A and their circles. */
    private static final class StateSum {
        private static final int POWERS = 2 * SUM_CROSSINGS + 1;
        private static final int MOST_CIRCLES = 2 * SUM_CROSSINGS + SUM_CIRCLES;

        private final int[] mate = new int[4 * SUM_CROSSINGS];
        private final int[] states = new int[(MOST_CIRCLES + 1) * POWERS];
        private int crossings;

        void bracket(Diagram d, Shape shape, Polynomial result) {
            result.clear();
            if (d.count == 0 && d.circles == 0) {
                result.add(0, 1);
                return;
            }
            countStates(d, shape);
            int most = mostCircles();
            int reach = crossings;
            for (int circles = most; circles >= 1; circles--) {
                if (circles < most) {
                    result.timesCircle(reach);
                    reach += 2;
                }
                for (int power = -crossings; power <= crossings; power += 2) {
                    result.add(power, states[circles * POWERS + power + SUM_CROSSINGS]);
                }
            }
        }

        private void countStates(Diagram d, Shape shape) {
            crossings = Math.min(d.count, SUM_CROSSINGS);
            for (int e = 0; e < 2 * crossings; e++) {
                mate[shape.from[e]] = shape.to[e];
                mate[shape.to[e]] = shape.from[e];
            }
            Arrays.fill(states, 0);
            split(0, 0, d.circles);
        }

        private int mostCircles() {
            int most = 0;
            for (int i = 0; i < states.length; i++) {
                if (states[i] != 0) {
                    most = i / POWERS;
                }
            }
            return most;
        }

        private void split(int c, int power, int circles) {
            if (c >= crossings) {
                if (circles <= MOST_CIRCLES) {
                    states[circles * POWERS + power + SUM_CROSSINGS]++;
                }
                return;
            }
            splitAs(c, 0, power + 1, circles);
            splitAs(c, 1, power - 1, circles);
        }

        /** Each way knows the other end of it at its ends alone, so that a join is taken back in four steps. */
        private void splitAs(int c, int first, int power, int circles) {
            int a = 4 * c + first;
            int b = a + 1;
            int f = a + 2;
            int g = 4 * c + (first + 3 & 3);
            int aMate = mate[a];
            int bMate = mate[b];
            mate[aMate] = bMate;
            mate[bMate] = aMate;
            int fMate = mate[f];
            int gMate = mate[g];
            mate[fMate] = gMate;
            mate[gMate] = fMate;
            int closed = (aMate == b ? 1 : 0) + (fMate == g ? 1 : 0);
            split(c + 1, power, circles + closed);
            mate[fMate] = f;
            mate[gMate] = g;
            mate[aMate] = a;
            mate[bMate] = b;
        }
    }

    /**
     * The Alexander polynomial. The columns of the matrix add up to 0, and so do its rows, each times some
     * power of t with a sign: so minors with a row less are one up to such factors, and those with all rows are 0.
     */
    private static final class Minor {
        private static final int MAX_ORDER = SUM_CROSSINGS - 1;
        private static final int WIDTH = MAX_ORDER + 1;

        private final int[] sum = new int[(1 << MAX_ORDER) * WIDTH];
        private final int[] reached = new int[1 << MAX_ORDER];
        private int order;

        void alexander(Diagram d, Shape shape, Polynomial result) {
            result.clear();
            order = shape.findArcs() + d.circles - 1;
            if (order < 0 || order > Math.max(0, d.count - 1) || order > MAX_ORDER) {
                return;
            }
            expand(d, shape);
            int full = (1 << order) - 1;
            for (int e = 0; e <= order && reached[full] == 1; e++) {
                result.add(e, sum[full * WIDTH + e]);
            }
            result.makeNormal();
        }

        /** For each set of columns the minor of so many first rows in these columns, from the smaller sets on. */
        private void expand(Diagram d, Shape shape) {
            Arrays.fill(reached, 0);
            reach(0);
            sum[0] = 1;
            int full = (1 << order) - 1;
            for (int set = 0; set < full; set++) {
                if (reached[set] == 1) {
                    int c = Integer.bitCount(set);
                    int in = shape.arcOf[shape.edgeAt[4 * c]];
                    int out = shape.arcOf[shape.edgeAt[4 * c + 2]];
                    int upper = shape.arcOf[shape.edgeAt[4 * c + 1]];
                    boolean positive = d.sign[c] > 0;
                    addColumn(set, c, positive ? in : out, 0, 1);
                    addColumn(set, c, positive ? out : in, -1, 0);
                    addColumn(set, c, upper, 1, -1);
                }
            }
        }

        /** Rows have three entries at most, so few sets are reached: only these are cleared. */
        private void reach(int set) {
            if (reached[set] == 0) {
                reached[set] = 1;
                for (int e = 0; e < WIDTH; e++) {
                    sum[set * WIDTH + e] = 0;
                }
            }
        }

        /** The entry is fixed + slope * t, in a row whose number is that of the set's columns. */
        private void addColumn(int set, int row, int column, int fixed, int slope) {
            if (column >= order || (set >> column & 1) == 1) {
                return;
            }
            int larger = set | 1 << column;
            reach(larger);
            int sign = (Integer.bitCount(set >> column) & 1) == 1 ? -1 : 1;
            int source = set * WIDTH;
            int target = larger * WIDTH;
            for (int e = 0; e <= row; e++) {
                int value = sign * sum[source + e];
                sum[target + e] += fixed * value;
                sum[target + e + 1] += slope * value;
            }
        }
    }
}
