import java.util.Arrays;

/**
 * Sums put in words: tales for sums of told shapes, with all the numbers that fit counted,
 * tales written and read back, and sheets on which no two sums have one answer.
 */
public final class SumsInWords {
    public static final int NONE = -1;

    private static final int NO_ANSWER = -2;
    private static final int MOST_WORDS = 6;
    private static final int MOST_LETTERS = 8;
    private static final int GREATEST_MOST = 9999;
    private static final int NUMBERS = 4;
    private static final int GREATEST_NUMBER = 60;
    private static final int WIDEST_SPAN = 20;
    private static final int SHAPES = 8;
    private static final int WAYS = 6;
    private static final int RIGHT = 64;
    private static final int LONGEST_SHEET = 20;
    private static final int MOST_BYTES = 400;
    private static final int MOST_SENTENCES = 5;
    private static final int FACTS = 11;
    private static final int IMAGES = 3;
    /** Far above the 168,000 steps that the widest spans can need. */
    private static final int MOST_STEPS = 1000000;

    private static final int NO_FAULT = 0;
    private static final int FAULT_TOKEN = 1;
    private static final int FAULT_TALE = 2;

    private static final int TURNED = 8;
    private static final int IDLE = 16;

    private static final int TOKEN_END = 0;
    private static final int TOKEN_WORD = 1;
    private static final int TOKEN_NUMBER = 2;
    private static final int TOKEN_SIGN = 3;
    private static final int TOKEN_BAD = 4;

    /** The words that the sentences use themselves, so that no name or thing may be one. */
    private static final String KEPT =
            "has boxes gets loses puts them into in a box are more than now how many have both had";

    /** The letters of the sentences A .. H and of the questions P .. S. */
    private static final String FORMS = "ABCDEFGHPQRS";

    /** Four signs a shape: its sentences, then its question. */
    private static final String SHAPE_FORMS = "ACP ADP AEQ BFP AGP AGR CHS ACEQ";

    private final State now;
    private final State[] images;
    private final SetWalk walk;
    private final Writer writer;
    private final Reader reader;

    public SumsInWords() {
        State state = new State();
        now = state;
        images = new State[IMAGES];
        walk = new SetWalk(state.plan, state.words);
        writer = new Writer(state.words, state.text);
        reader = new Reader(state.words, state.tape);
    }

    public int name(long word) {
        return now.words.addName(word);
    }

    public int thing(long word, int most) {
        return now.words.addThing(word, most);
    }

    public boolean span(int what, int least, int greatest) {
        if (!now.plan.setSpan(what, least, greatest)) {
            return false;
        }
        walk.renew();
        return true;
    }

    public boolean ways(int bits) {
        if (bits < 0 || bits >= 1 << WAYS) {
            return false;
        }
        now.plan.told = bits;
        walk.renew();
        return true;
    }

    public int choose(int shape, int n, int m, int t, int idleName, int idleThing) {
        if (!now.plan.settle(now.words, shape, n, m, t, idleName, idleThing)) {
            return NONE;
        }
        walk.renew();
        return walk.countAll();
    }

    public int sets() {
        return now.plan.isSettled() ? walk.countAll() : NONE;
    }

    public int set(int k, int what) {
        return walk.seek(k) ? walk.fact(what) : NONE;
    }

    public int tells(int k, int number) {
        if (!walk.seek(k)) {
            return NONE;
        }
        return walk.answer == number ? RIGHT : walk.waysTo(number);
    }

    public int sheet(int n) {
        if (!now.plan.isSettled() || n < 1 || n > LONGEST_SHEET) {
            return NONE;
        }
        Sheet sheet = now.sheet;
        sheet.size = 0;
        for (int k = 0; k < MOST_STEPS && sheet.size < n && walk.seek(k); k++) {
            sheet.addUnlike(k, walk.answer);
        }
        return sheet.size;
    }

    public int on(int j) {
        return now.sheet.setAt(j);
    }

    public int write(int k, boolean turned, int place) {
        Plan plan = now.plan;
        if (!walk.seek(k) || turned && !mayTurn(plan.shape)) {
            return NONE;
        }
        if (plan.isIdle() && (place < 0 || place > bodyLength(plan.shape))) {
            return NONE;
        }
        writer.putTale(plan, walk, turned, place);
        return now.text.length;
    }

    public int written(int j) {
        return now.text.byteAt(j);
    }

    public int take() {
        if (now.text.length == 0) {
            return NONE;
        }
        now.tape.copyOf(now.text);
        return now.tape.length;
    }

    public int feed(int a, int b, int c, int d, int e) {
        Bytes tape = now.tape;
        if (tape.length + 20 > MOST_BYTES) {
            return NONE;
        }
        tape.putFour(a);
        tape.putFour(b);
        tape.putFour(c);
        tape.putFour(d);
        tape.putFour(e);
        return tape.length;
    }

    public int end(int n) {
        if (n < 0 || n > now.tape.length) {
            return NONE;
        }
        now.tape.length = n;
        return n;
    }

    public int read() {
        int code = NONE;
        if (reader.readRow()) {
            code = reader.finder.find(reader.sentences, now.facts);
            now.fault = code == NONE ? FAULT_TALE : NO_FAULT;
            now.faultPlace = code == NONE ? reader.sentencePlace : NONE;
        } else {
            now.fault = FAULT_TOKEN;
            now.faultPlace = reader.start;
        }
        now.tape.length = 0;
        return code;
    }

    public int fault(int what) {
        switch (what) {
            case 0:
                return now.fault;
            case 1:
                return now.faultPlace;
            default:
                return NONE;
        }
    }

    public int got(int what) {
        return what < 0 || what >= FACTS ? NONE : now.facts[what];
    }

    public int count(int what) {
        switch (what) {
            case 0:
                return now.words.names;
            case 1:
                return now.words.things;
            case 2:
                return now.text.length;
            case 3:
                return now.sheet.size;
            case 4:
                return now.tape.length;
            default:
                return NONE;
        }
    }

    public boolean image(int k) {
        if (k < 0 || k >= IMAGES) {
            return false;
        }
        if (images[k] == null) {
            images[k] = new State();
        }
        images[k].copyOf(now);
        return true;
    }

    public boolean again(int k) {
        if (k < 0 || k >= IMAGES || images[k] == null) {
            return false;
        }
        now.copyOf(images[k]);
        walk.renew();
        return true;
    }

    /** How many sentences a shape has, without an idle one. */
    private static int bodyLength(int shape) {
        return shape == 7 ? 3 : 2;
    }

    private static boolean mayTurn(int shape) {
        return shape >= 3 && shape <= 5;
    }

    /** Whether a shape tells of a second name, m. */
    private static boolean hasPair(int shape) {
        return shape == 4 || shape == 5;
    }

    /** The place at which sentence j of a tale stands when the tale isn't turned. */
    private static int unturned(boolean turned, int j) {
        return turned && j < 2 ? 1 - j : j;
    }

    /** The letter of sentence j of a shape, or of its question behind the last of them. */
    private static char formAt(int shape, boolean turned, int j) {
        int at = shape * 4 + unturned(turned, j);
        return at < 0 || at >= SHAPE_FORMS.length() ? ' ' : SHAPE_FORMS.charAt(at);
    }

    /** Which number sentence j tells: 0 is X, 1 is Y, 2 is Z. */
    private static int numberAt(int shape, boolean turned, int j) {
        // Shape 6 tells what came in first, and only then what there is now.
        return unturned(turned != (shape == 6), j);
    }

    /** Whether the first name in a sentence is m, not n. */
    private static boolean isOfM(int shape, char form) {
        return form == 'G' || form == 'P' && shape == 4;
    }

    private static boolean isQuestion(char form) {
        return form >= 'P';
    }

    private static boolean isLetter(int sign) {
        return sign >= 'a' && sign <= 'z';
    }

    private static boolean isDigit(int sign) {
        return sign >= '0' && sign <= '9';
    }

    /** A sentence as it is written: N its first name, O the other one, T a thing, X a number. */
    private static String textOf(char form) {
        switch (form) {
            case 'A':
                return "N has X T.";
            case 'B':
                return "N has X boxes.";
            case 'C':
                return "N gets X T.";
            case 'D':
                return "N loses X T.";
            case 'E':
                return "N puts them into X boxes.";
            case 'F':
                return "in a box are X T.";
            case 'G':
                return "N has X T more than O.";
            case 'H':
                return "now N has X T.";
            case 'P':
                return "how many T has N?";
            case 'Q':
                return "how many T are in a box?";
            case 'R':
                return "how many T have both?";
            case 'S':
                return "how many T had N?";
            default:
                return "";
        }
    }

    /** The answer of a shape; NO_ANSWER if it isn't whole or is below 1. */
    private static int answerOf(int shape, int x, int y, int z) {
        switch (shape) {
            case 0:
            case 4:
                return atLeastOne(x + y);
            case 1:
            case 6:
                return atLeastOne(x - y);
            case 2:
                return share(x, y);
            case 3:
                return atLeastOne(x * y);
            case 5:
                return atLeastOne(2 * x + y);
            case 7:
                return share(x + y, z);
            default:
                return NO_ANSWER;
        }
    }

    private static int atLeastOne(int answer) {
        return answer < 1 ? NO_ANSWER : answer;
    }

    private static int share(int all, int boxes) {
        return boxes < 1 || all % boxes != 0 ? NO_ANSWER : atLeastOne(all / boxes);
    }

    /** All that an image keeps. */
    private static final class State {
        final Words words = new Words();
        final Plan plan = new Plan();
        final Sheet sheet = new Sheet();
        final Bytes text = new Bytes();
        final Bytes tape = new Bytes();
        final int[] facts = new int[FACTS];
        int fault = NO_FAULT;
        int faultPlace = NONE;

        State() {
            Arrays.fill(facts, NONE);
        }

        void copyOf(State other) {
            words.copyOf(other.words);
            plan.copyOf(other.plan);
            sheet.copyOf(other.sheet);
            text.copyOf(other.text);
            tape.copyOf(other.tape);
            System.arraycopy(other.facts, 0, facts, 0, FACTS);
            fault = other.fault;
            faultPlace = other.faultPlace;
        }
    }

    /** The names and the things. */
    private static final class Words {
        private final long[] nameWords = new long[MOST_WORDS];
        private final long[] thingWords = new long[MOST_WORDS];
        private final int[] mosts = new int[MOST_WORDS];
        int names;
        int things;

        void copyOf(Words other) {
            System.arraycopy(other.nameWords, 0, nameWords, 0, MOST_WORDS);
            System.arraycopy(other.thingWords, 0, thingWords, 0, MOST_WORDS);
            System.arraycopy(other.mosts, 0, mosts, 0, MOST_WORDS);
            names = other.names;
            things = other.things;
        }

        int addName(long word) {
            if (names >= MOST_WORDS || !isFree(word)) {
                return NONE;
            }
            nameWords[names] = word;
            names++;
            return names - 1;
        }

        int addThing(long word, int most) {
            if (things >= MOST_WORDS || !isFree(word) || most < 1 || most > GREATEST_MOST) {
                return NONE;
            }
            thingWords[things] = word;
            mosts[things] = most;
            things++;
            return things - 1;
        }

        boolean hasName(int k) {
            return k >= 0 && k < names;
        }

        boolean hasThing(int k) {
            return k >= 0 && k < things;
        }

        long nameWord(int k) {
            return hasName(k) ? nameWords[k] : 0;
        }

        long thingWord(int k) {
            return hasThing(k) ? thingWords[k] : 0;
        }

        int mostOf(int k) {
            return hasThing(k) ? mosts[k] : 0;
        }

        int findName(long word) {
            return find(nameWords, names, word);
        }

        int findThing(long word) {
            return find(thingWords, things, word);
        }

        private static int find(long[] row, int size, long word) {
            for (int k = 0; k < size && k < row.length; k++) {
                if (row[k] == word) {
                    return k;
                }
            }
            return NONE;
        }

        private boolean isFree(long word) {
            return isWord(word) && !isKept(word) && findName(word) == NONE && findThing(word) == NONE;
        }

        private static boolean isWord(long word) {
            long rest = word;
            for (int j = 0; j < MOST_LETTERS && rest != 0; j++) {
                if (!isLetter((int) (rest & 255))) {
                    return false;
                }
                rest >>>= 8;
            }
            return word != 0;
        }

        private static boolean isKept(long word) {
            long kept = 0;
            for (int j = 0; j < KEPT.length(); j++) {
                char sign = KEPT.charAt(j);
                if (sign != ' ') {
                    kept = kept << 8 | sign;
                } else if (kept == word) {
                    return true;
                } else {
                    kept = 0;
                }
            }
            return kept == word;
        }
    }

    /** What is chosen, and the spans and ways. */
    private static final class Plan {
        final int[] least = new int[NUMBERS];
        final int[] greatest = new int[NUMBERS];
        int told;
        int shape = NONE;
        int n = NONE;
        int m = NONE;
        int t = NONE;
        int idleName = NONE;
        int idleThing = NONE;

        Plan() {
            Arrays.fill(least, 1);
            Arrays.fill(greatest, WIDEST_SPAN);
        }

        void copyOf(Plan other) {
            System.arraycopy(other.least, 0, least, 0, NUMBERS);
            System.arraycopy(other.greatest, 0, greatest, 0, NUMBERS);
            told = other.told;
            shape = other.shape;
            n = other.n;
            m = other.m;
            t = other.t;
            idleName = other.idleName;
            idleThing = other.idleThing;
        }

        boolean isSettled() {
            return shape != NONE;
        }

        boolean isIdle() {
            return idleName != NONE;
        }

        boolean setSpan(int what, int low, int high) {
            if (what < 0 || what >= NUMBERS || low < 1 || high > GREATEST_NUMBER) {
                return false;
            }
            if (low > high || high - low >= WIDEST_SPAN) {
                return false;
            }
            least[what] = low;
            greatest[what] = high;
            return true;
        }

        boolean settle(Words words, int newShape, int newN, int newM, int newT, int name, int thing) {
            if (newShape < 0 || newShape >= SHAPES || !words.hasName(newN) || !words.hasThing(newT)) {
                return false;
            }
            boolean pair = hasPair(newShape);
            if (pair && (!words.hasName(newM) || newM == newN)) {
                return false;
            }
            if (name != NONE || thing != NONE) {
                if (!words.hasName(name) || name == newN || pair && name == newM) {
                    return false;
                }
                if (!words.hasThing(thing) || thing == newT) {
                    return false;
                }
            }
            shape = newShape;
            n = newN;
            m = pair ? newM : NONE;
            t = newT;
            idleName = name;
            idleThing = thing;
            return true;
        }

        boolean isTempting(int way) {
            if ((told >> way & 1) == 0) {
                return false;
            }
            switch (way) {
                case 0:
                    return shape != 0 && shape != 4;
                case 1:
                    return shape != 1 && shape != 6;
                case 2:
                    return shape != 3;
                case 3:
                    return isIdle() || shape != 0 && shape != 4;
                case 4:
                    return true;
                default:
                    return isIdle();
            }
        }

        /** The lowest of the numbers (0 X, 1 Y, 2 Z, 3 I); 0 where there is none such. */
        int low(int what) {
            return isUsed(what) ? least[what] : 0;
        }

        int high(int what) {
            return isUsed(what) ? greatest[what] : 0;
        }

        private boolean isUsed(int what) {
            if (what < 0 || what >= NUMBERS) {
                return false;
            }
            return what < 2 || what == 2 && shape == 7 || what == 3 && isIdle();
        }
    }

    /**
     * Goes from one set that fits to the next. It stays where it is between calls, since
     * calls most often ask for the same set again or for the next one.
     */
    private static final class SetWalk {
        private final Plan plan;
        private final Words words;
        private final int[] wayNumbers = new int[WAYS];
        private final boolean[] tempting = new boolean[WAYS];
        private final int[] low = new int[NUMBERS];
        private final int[] high = new int[NUMBERS];
        private int most;
        private int idleMost;
        private int total = NONE;
        private int index = NONE;
        private boolean over = true;
        private boolean sumFits;
        private int x;
        private int y;
        private int z;
        private int i;
        private int answer;

        SetWalk(Plan plan, Words words) {
            this.plan = plan;
            this.words = words;
        }

        /** To be called when anything has changed that the sets depend on. */
        void renew() {
            total = NONE;
            most = words.mostOf(plan.t);
            idleMost = words.mostOf(plan.idleThing);
            for (int way = 0; way < WAYS; way++) {
                tempting[way] = plan.isTempting(way);
            }
            for (int what = 0; what < NUMBERS; what++) {
                low[what] = plan.low(what);
                high[what] = plan.high(what);
            }
            restart();
        }

        int countAll() {
            for (int step = 0; step < MOST_STEPS && total == NONE; step++) {
                moveOn();
            }
            return total;
        }

        /** Stands on set k then, if there is one. */
        boolean seek(int k) {
            if (!plan.isSettled() || k < 0 || total != NONE && k >= total) {
                return false;
            }
            if (over || k < index) {
                restart();
            }
            for (int step = index; step < k && !over; step++) {
                moveOn();
            }
            return !over;
        }

        int fact(int what) {
            switch (what) {
                case 0:
                case 1:
                case 2:
                case 3:
                    return number(what);
                case 4:
                    return answer;
                default:
                    return wayNumber(what - 5);
            }
        }

        int number(int what) {
            switch (what) {
                case 0:
                    return x;
                case 1:
                    return y;
                case 2:
                    return z;
                default:
                    return i;
            }
        }

        int waysTo(int number) {
            int bits = 0;
            for (int way = 0; way < WAYS; way++) {
                if (tempting[way] && wayNumber(way) == number) {
                    bits |= 1 << way;
                }
            }
            return bits;
        }

        /** What a way tells. Z and I are 0 where there is none, so that they add nothing. */
        private int wayNumber(int way) {
            switch (way) {
                case 0:
                    return x + y;
                case 1:
                    return Math.abs(x - y);
                case 2:
                    return x * y;
                case 3:
                    return x + y + z + i;
                case 4:
                    return Math.max(Math.max(x, y), Math.max(z, i));
                case 5:
                    return answer + i;
                default:
                    return NONE;
            }
        }

        /** Goes ahead of the first set. */
        private void restart() {
            index = NONE;
            over = !plan.isSettled();
            x = low[0];
            y = low[1];
            z = low[2];
            i = low[3] - 1;
            sumFits = !over && doesSumFit();
        }

        /** Goes to the next set that fits; if there is none, it is over, and all are counted. */
        private void moveOn() {
            for (int step = 0; step < MOST_STEPS && !over; step++) {
                if (sumFits && i < high[3]) {
                    i++;
                } else {
                    i = low[3];
                    nextSum();
                    sumFits = !over && doesSumFit();
                }
                if (sumFits && doesIdleFit()) {
                    index++;
                    return;
                }
            }
            total = index + 1;
        }

        private void nextSum() {
            if (z < high[2]) {
                z++;
                return;
            }
            z = low[2];
            if (y < high[1]) {
                y++;
                return;
            }
            y = low[1];
            if (x < high[0]) {
                x++;
                return;
            }
            over = true;
        }

        /** Whether X, Y and Z fit, whatever I is. */
        private boolean doesSumFit() {
            int shape = plan.shape;
            answer = answerOf(shape, x, y, z);
            if (answer == NO_ANSWER || answer > most) {
                return false;
            }
            if (shape != 3 && x > most || shape != 2 && y > most) {
                return false;
            }
            if ((shape == 5 || shape == 7) && x + y > most) {
                return false;
            }
            return areUnlike(0, 2);
        }

        private boolean doesIdleFit() {
            return (!plan.isIdle() || i <= idleMost) && areUnlike(3, 5);
        }

        /** Whether these tempting ways are unlike the answer, each other and all ahead of them. */
        private boolean areUnlike(int from, int to) {
            for (int way = Math.max(from, 0); way <= to && way < WAYS; way++) {
                if (tempting[way]) {
                    wayNumbers[way] = wayNumber(way);
                    if (wayNumbers[way] == answer || isTold(way)) {
                        return false;
                    }
                }
            }
            return true;
        }

        private boolean isTold(int way) {
            for (int ahead = 0; ahead < way; ahead++) {
                if (tempting[ahead] && wayNumbers[ahead] == wayNumbers[way]) {
                    return true;
                }
            }
            return false;
        }
    }

    /** Sets that all have another answer. */
    private static final class Sheet {
        private final int[] numbers = new int[LONGEST_SHEET];
        private final int[] answers = new int[LONGEST_SHEET];
        int size;

        void copyOf(Sheet other) {
            System.arraycopy(other.numbers, 0, numbers, 0, LONGEST_SHEET);
            System.arraycopy(other.answers, 0, answers, 0, LONGEST_SHEET);
            size = other.size;
        }

        int setAt(int j) {
            return j < 0 || j >= size || j >= LONGEST_SHEET ? NONE : numbers[j];
        }

        /** Puts a set behind the others, unless one of them has its answer. */
        void addUnlike(int k, int answer) {
            if (size < LONGEST_SHEET && !hasAnswer(answer)) {
                numbers[size] = k;
                answers[size] = answer;
                size++;
            }
        }

        private boolean hasAnswer(int answer) {
            for (int j = 0; j < size && j < LONGEST_SHEET; j++) {
                if (answers[j] == answer) {
                    return true;
                }
            }
            return false;
        }
    }

    /** A row of bytes: the tape, or what was written. */
    private static final class Bytes {
        private final int[] row = new int[MOST_BYTES];
        int length;

        void copyOf(Bytes other) {
            System.arraycopy(other.row, 0, row, 0, MOST_BYTES);
            length = other.length;
        }

        int byteAt(int j) {
            return j < 0 || j >= length || j >= MOST_BYTES ? NONE : row[j];
        }

        void put(int sign) {
            if (length < MOST_BYTES) {
                row[length] = sign & 255;
                length++;
            }
        }

        void putFour(int four) {
            for (int shift = 24; shift >= 0; shift -= 8) {
                put(four >> shift);
            }
        }
    }

    /** A sentence or a question; NONE for what it doesn't tell. */
    private static final class Sentence {
        char form;
        int first;
        int other;
        int thing;
        int number;

        void clear() {
            form = ' ';
            first = NONE;
            other = NONE;
            thing = NONE;
            number = NONE;
        }
    }

    private static final class Writer {
        private final Words words;
        private final Bytes text;
        private final Sentence sentence = new Sentence();

        Writer(Words words, Bytes text) {
            this.words = words;
            this.text = text;
        }

        void putTale(Plan plan, SetWalk walk, boolean turned, int place) {
            text.length = 0;
            int body = bodyLength(plan.shape);
            for (int j = 0; j <= body; j++) {
                if (plan.isIdle() && j == place) {
                    putIdle(plan, walk);
                }
                sentence.form = formAt(plan.shape, turned, j);
                sentence.first = isOfM(plan.shape, sentence.form) ? plan.m : plan.n;
                sentence.other = plan.n;
                sentence.thing = plan.t;
                sentence.number = walk.number(numberAt(plan.shape, turned, j));
                putSentence();
            }
        }

        private void putIdle(Plan plan, SetWalk walk) {
            sentence.form = 'A';
            sentence.first = plan.idleName;
            sentence.other = NONE;
            sentence.thing = plan.idleThing;
            sentence.number = walk.number(3);
            putSentence();
        }

        private void putSentence() {
            if (text.length > 0) {
                text.put(' ');
            }
            String form = textOf(sentence.form);
            for (int j = 0; j < form.length(); j++) {
                putPart(form.charAt(j));
            }
        }

        private void putPart(char part) {
            switch (part) {
                case 'N':
                    putWord(words.nameWord(sentence.first));
                    break;
                case 'O':
                    putWord(words.nameWord(sentence.other));
                    break;
                case 'T':
                    putWord(words.thingWord(sentence.thing));
                    break;
                case 'X':
                    putNumber(sentence.number);
                    break;
                default:
                    text.put(part);
            }
        }

        private void putWord(long word) {
            for (int shift = 56; shift >= 0; shift -= 8) {
                int letter = (int) (word >> shift & 255);
                if (letter != 0) {
                    text.put(letter);
                }
            }
        }

        private void putNumber(int number) {
            for (int unit = 1000; unit >= 1; unit /= 10) {
                if (number >= unit) {
                    text.put('0' + number / unit % 10);
                }
            }
        }
    }

    /** Reads the tape's sentences and its question, whatever tale they are. */
    private static final class Reader {
        private final Words words;
        private final Bytes tape;
        final ShapeFinder finder = new ShapeFinder();
        /** How far the sentence that is being read has come in each form; NONE if it isn't one. */
        private final int[] reached = new int[FORMS.length()];
        int sentences;
        /** The first token of the sentence or question that is being read. */
        int sentencePlace;
        private boolean opening;
        private boolean asked;
        /** The place of the latest token or, behind the last, of the end. */
        int start;
        private int at;
        private int kind;
        private int nameRead;
        private int thingRead;
        private int numberRead;

        Reader(Words words, Bytes tape) {
            this.words = words;
            this.tape = tape;
        }

        /** Whether the tape is sentences and a question; if not, start is the fault's place. */
        boolean readRow() {
            at = 0;
            sentences = 0;
            asked = false;
            openSentence();
            for (int tokens = 0; tokens <= MOST_BYTES; tokens++) {
                nextToken();
                if (kind == TOKEN_END) {
                    return asked;
                }
                if (!goOn()) {
                    return false;
                }
            }
            return false;
        }

        private void openSentence() {
            opening = true;
            Arrays.fill(reached, 0);
            finder.sentenceAt(sentences).clear();
        }

        private boolean goOn() {
            if (asked) {
                return false;
            }
            if (opening) {
                sentencePlace = start;
                opening = false;
            }
            boolean goes = false;
            for (int j = 0; j < reached.length && j < FORMS.length(); j++) {
                char form = FORMS.charAt(j);
                reached[j] = passed(textOf(form), reached[j]);
                if (reached[j] != NONE) {
                    goes = true;
                    if (reached[j] == textOf(form).length()) {
                        closeSentence(form);
                        return true;
                    }
                }
            }
            return goes;
        }

        private void closeSentence(char form) {
            finder.sentenceAt(sentences).form = form;
            if (isQuestion(form)) {
                asked = true;
            } else {
                sentences++;
                openSentence();
            }
        }

        /** Where a form goes on behind the latest token; NONE if that isn't its part from there on. */
        private int passed(String form, int from) {
            if (from < 0 || from >= form.length()) {
                return NONE;
            }
            int length = 1;
            char part = form.charAt(from);
            if (part == 'N' || part == 'O' || part == 'T' || part == 'X') {
                if (!keepPart(part)) {
                    return NONE;
                }
            } else {
                length = at - start;
                if (!isSame(form, from, length)) {
                    return NONE;
                }
            }
            int next = from + length;
            return next < form.length() && form.charAt(next) == ' ' ? next + 1 : next;
        }

        private boolean keepPart(char part) {
            Sentence sentence = finder.sentenceAt(sentences);
            switch (part) {
                case 'N':
                    sentence.first = nameRead;
                    return nameRead != NONE;
                case 'O':
                    sentence.other = nameRead;
                    return nameRead != NONE;
                case 'T':
                    sentence.thing = thingRead;
                    return thingRead != NONE;
                default:
                    sentence.number = numberRead;
                    return numberRead != NONE;
            }
        }

        /** Whether the latest token is the whole word or sign that stands there in a form. */
        private boolean isSame(String form, int from, int length) {
            int behind = from + length;
            if (kind != TOKEN_WORD && kind != TOKEN_SIGN || behind > form.length()) {
                return false;
            }
            for (int j = 0; j < length; j++) {
                if (form.charAt(from + j) != tape.byteAt(start + j)) {
                    return false;
                }
            }
            return kind == TOKEN_SIGN || behind == form.length() || !isLetter(form.charAt(behind));
        }

        private void nextToken() {
            nameRead = NONE;
            thingRead = NONE;
            numberRead = NONE;
            skipBlanks();
            start = at;
            int sign = tape.byteAt(at);
            if (sign == NONE) {
                kind = TOKEN_END;
            } else if (isLetter(sign)) {
                takeWord();
            } else if (isDigit(sign)) {
                takeNumber();
            } else {
                kind = sign == '.' || sign == '?' ? TOKEN_SIGN : TOKEN_BAD;
                at++;
            }
        }

        private void skipBlanks() {
            while (at < tape.length && (tape.byteAt(at) == ' ' || tape.byteAt(at) == 10)) {
                at++;
            }
        }

        private void takeWord() {
            kind = TOKEN_WORD;
            long word = 0;
            while (at < tape.length && isLetter(tape.byteAt(at))) {
                word = word << 8 | tape.byteAt(at);
                at++;
            }
            if (at - start <= MOST_LETTERS) {
                nameRead = words.findName(word);
                thingRead = words.findThing(word);
            }
        }

        private void takeNumber() {
            int number = 0;
            boolean good = tape.byteAt(at) != '0';
            while (at < tape.length && isDigit(tape.byteAt(at))) {
                number = number * 10 + tape.byteAt(at) - '0';
                at++;
            }
            good = good && at - start <= 4;
            kind = good ? TOKEN_NUMBER : TOKEN_BAD;
            numberRead = good ? number : NONE;
        }
    }

    /** Holds a row of sentences and its question, and finds the one shape of which they are a tale. */
    private static final class ShapeFinder {
        private final Sentence[] row = new Sentence[MOST_SENTENCES + 1];
        private int sentences;
        private int shape;
        private boolean turned;
        /** Which sentence is the idle one; NONE if none is. */
        private int idlePlace;
        private int n;
        private int m;
        private int t;

        ShapeFinder() {
            for (int j = 0; j < row.length; j++) {
                row[j] = new Sentence();
            }
        }

        /** Sentences too many share the last place: they are no tale, whatever they tell. */
        Sentence sentenceAt(int place) {
            return row[Math.max(0, Math.min(place, MOST_SENTENCES))];
        }

        /** What read() answers. The facts are changed only if there is a tale. */
        int find(int size, int[] facts) {
            sentences = size;
            if (size > MOST_SENTENCES) {
                return NONE;
            }
            for (int tried = 0; tried < SHAPES; tried++) {
                shape = tried;
                if (isShape(false) || mayTurn(shape) && isShape(true)) {
                    keepFacts(facts);
                    return shape + (turned ? TURNED : 0) + (idlePlace == NONE ? 0 : IDLE);
                }
            }
            return NONE;
        }

        private boolean isShape(boolean inTurn) {
            turned = inTurn;
            int body = bodyLength(shape);
            idlePlace = NONE;
            if (sentences == body) {
                return hasForms() && hasWords();
            }
            if (sentences == body + 1) {
                for (int place = 0; place <= body; place++) {
                    idlePlace = place;
                    if (hasForms() && hasWords() && hasIdle()) {
                        return true;
                    }
                }
            }
            return false;
        }

        /** Sentence j of the shape, or its question, past the idle one. */
        private Sentence part(int j) {
            return sentenceAt(idlePlace != NONE && j >= idlePlace ? j + 1 : j);
        }

        private Sentence idle() {
            return sentenceAt(idlePlace);
        }

        private boolean hasForms() {
            for (int j = 0; j <= bodyLength(shape); j++) {
                if (part(j).form != formAt(shape, turned, j)) {
                    return false;
                }
            }
            return true;
        }

        private boolean hasWords() {
            n = part(unturned(turned, 0)).first;
            m = hasPair(shape) ? part(unturned(turned, 1)).first : NONE;
            t = part(bodyLength(shape)).thing;
            for (int j = 0; j <= bodyLength(shape); j++) {
                Sentence sentence = part(j);
                int who = isOfM(shape, sentence.form) ? m : n;
                if (!isOrNone(sentence.first, who) || !isOrNone(sentence.other, n) || !isOrNone(sentence.thing, t)) {
                    return false;
                }
            }
            return m != n;
        }

        private static boolean isOrNone(int word, int wanted) {
            return word == NONE || word == wanted;
        }

        private boolean hasIdle() {
            Sentence sentence = idle();
            return sentence.form == 'A' && sentence.first != n && sentence.first != m && sentence.thing != t;
        }

        private void keepFacts(int[] facts) {
            if (facts.length < FACTS) {
                return;
            }
            Arrays.fill(facts, NONE);
            for (int j = 0; j < bodyLength(shape); j++) {
                int what = numberAt(shape, turned, j);
                if (what >= 0 && what < 3) {
                    facts[what] = part(j).number;
                }
            }
            facts[4] = n;
            facts[5] = m;
            facts[6] = t;
            if (idlePlace != NONE) {
                facts[3] = idle().number;
                facts[7] = idle().first;
                facts[8] = idle().thing;
                facts[9] = idlePlace;
            }
            facts[10] = answerOf(shape, facts[0], facts[1], facts[2]);
        }
    }
}
