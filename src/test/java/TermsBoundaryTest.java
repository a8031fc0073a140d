import java.io.IOException;

/** A test of its own for each sentence of the document's Terms that names a boundary case. */
public final class TermsBoundaryTest extends Kit {
    private static final String KEPT = "has boxes gets loses puts them into in a box are more than now how many have both had";
    private static final String TALE = "ann has 3 pears. ann gets 4 pears. how many pears has ann?";
    private static final String NO_SENTENCE = "how many pears has ann?";

    public static void main(String[] args) throws IOException {
        open(args);
        wordsAtMostSix();
        wordsFromZero();
        wordsOfLetters();
        wordsLastLetterLowest();
        wordsUnlike();
        wordsKept();
        mostOfAThing();
        numbersOfSentences();
        secondNameUnlike();
        turnedShapes();
        oneIdle();
        idleNameUnlike();
        idleThingUnlike();
        idlePlaces();
        spanEnds();
        spanWidth();
        spansAtFirst();
        answerWholeAndOne();
        mostOfEachShape();
        mostOfIdle();
        temptingUnlike();
        orderOfSets();
        differenceNotBelowZero();
        noWaysAtFirst();
        notTempting();
        blanksWritten();
        placesWritten();
        tapeAtMostFourHundred();
        tokensAsLongAsTheyGo();
        blanksBetween();
        wordsRead();
        digitsOfNumbers();
        signsOfOneByte();
        oneToFiveSentences();
        rowsThatAreTales();
        numbersReadInNoSpan();
        placesOfFaults();
        firstFault();
        faultOfQuestion();
        dueAllNamed("Terms");
        finish("all boundaries of the terms hold");
    }

    private static SumsInWords sixOfEach() {
        SumsInWords x = new SumsInWords();
        for (int j = 0; j < 6; j++) {
            due("name " + j, x.name(word("n" + (char) ('a' + j))), j);
            due("thing " + j, x.thing(word("t" + (char) ('a' + j)), 100 + j), j);
        }
        return x;
    }

    private static void wordsAtMostSix() {
        sentence("Terms 1", "NAMES and THINGS, at most 6 each");
        SumsInWords x = sixOfEach();
        due("choose", x.choose(0, 5, 0, 5, 4, 4), 400 * 20);
        refused(x, "a seventh name", () -> x.name(word("ng")));
        refused(x, "a seventh thing", () -> x.thing(word("tg"), 100));
        due("names", x.count(0), 6);
        due("things", x.count(1), 6);
        SumsInWords y = new SumsInWords();
        for (int j = 0; j < 6; j++) {
            due("six names alone", y.name(word("n" + (char) ('a' + j))), j);
        }
        due("a thing still, with six names", y.thing(word("pears"), 1), 0);
    }

    private static void wordsFromZero() {
        sentence("Terms 1", "from 0 on");
        SumsInWords x = new SumsInWords();
        due("the first name", x.name(word("ann")), 0);
        due("the first thing", x.thing(word("pears"), 9), 0);
        due("name 1 isn't there", x.choose(0, 1, 0, 0, -1, -1), -1);
        due("thing 1 isn't there", x.choose(0, 0, 0, 1, -1, -1), -1);
        due("they are 0", x.choose(0, 0, 0, 0, -1, -1), 36);
    }

    private static void wordsOfLetters() {
        sentence("Terms 1", "1 to 8 letters a .. z");
        SumsInWords x = new SumsInWords();
        due("a name", x.name(word("ann")), 0);
        due("a thing", x.thing(word("pears"), 9), 0);
        due("choose", x.choose(0, 0, 0, 0, -1, -1), 36);
        long[] none = {0, -1, Long.MIN_VALUE, Long.MAX_VALUE, 1, 'a' - 1, 'z' + 1, 'A', '0', ' ', 255,
            word("bob") << 8, word("bob") << 8 | 'a' - 1, word("bob") << 8 | 'z' + 1, (long) ('a' - 1) << 24 | word("bob"),
            (long) ('z' + 1) << 24 | word("bob"), word("b") << 16 | 'b', (long) 'b' << 56, word("Bob"), word("boB"),
            word("zzzzzzzz") | 1L << 63, word("bbbbbbb") | (long) 'B' << 56, word("bbbbbbb") | 0xe2L << 56,
            word("bob") | 1L << 32, word("bob") + (1L << 56)};
        for (long word : none) {
            refused(x, "name " + Long.toHexString(word), () -> x.name(word));
            refused(x, "thing " + Long.toHexString(word), () -> x.thing(word, 9));
        }
        due("one letter, b", x.name('b'), 1);
        due("one letter, z", x.name('z'), 2);
        due("eight letters", x.name(word("aaaaaaaa")), 3);
        due("eight letters", x.name(word("zzzzzzzz")), 4);
        due("one letter", x.thing('c', 9), 1);
        due("eight letters", x.thing(word("azazazaz"), 9), 2);
        for (int length = 2; length <= 7; length++) {
            due(length + " letters", new SumsInWords().name(word("azazazaz".substring(0, length))), 0);
        }
    }

    private static void wordsLastLetterLowest() {
        sentence("Terms 1", "told as one number, the last letter in its lowest eight bits");
        SumsInWords x = new SumsInWords();
        due("name", x.name('b' << 16 | 'e' << 8 | 'n'), 0);
        due("the same letters the other way round are another", x.name('n' << 16 | 'e' << 8 | 'b'), 1);
        due("thing", x.thing((long) 's' << 56 | word("tuvwxyz"), 90), 0);
        narrow(x, 1, 1, 1, 1).choose(0, 0, 0, 0, -1, -1);
        dueTale(x, 0, false, 0, "ben has 1 stuvwxyz. ben gets 1 stuvwxyz. how many stuvwxyz has ben?");
    }

    private static void wordsUnlike() {
        sentence("Terms 1", "all unlike");
        SumsInWords x = people();
        due("choose", x.choose(0, 0, 0, 0, -1, -1), 400);
        for (String name : new String[] {"ann", "ben", "cyd"}) {
            refused(x, "a name twice", () -> x.name(word(name)));
            refused(x, "a name as a thing", () -> x.thing(word(name), 7));
        }
        for (String thing : new String[] {"pears", "cups", "figs"}) {
            refused(x, "a thing as a name", () -> x.name(word(thing)));
            refused(x, "a thing twice", () -> x.thing(word(thing), 7));
        }
        due("a letter more", x.name(word("anna")), 3);
        due("a letter less", x.name(word("an")), 4);
        due("a letter more", x.thing(word("pearss"), 7), 3);
    }

    private static void wordsKept() {
        sentence("Terms 1", "none of: has, boxes, gets, loses, puts, them, into, in, a, box, are, more, than, now, how, many,"
            + " have, both, had.");
        for (String kept : KEPT.split(" ")) {
            SumsInWords x = people();
            refused(x, "name " + kept, () -> x.name(word(kept)));
            refused(x, "thing " + kept, () -> x.thing(word(kept), 9));
            due("a letter more than " + kept, x.name(word(kept + "q")), 3);
            due("a letter ahead of " + kept, x.thing(word("q" + kept), 9), 3);
        }
        for (String free : "ha boxe get lose put the int i bo ar mor tha no ho man hav bot e d o".split(" ")) {
            due("a part of a kept word, " + free, new SumsInWords().name(word(free)), 0);
        }
    }

    private static void mostOfAThing() {
        sentence("Terms 1", "A THING has a MOST, 1 .. 9999.");
        SumsInWords x = people();
        due("choose", x.choose(0, 0, 0, 0, -1, -1), 400);
        for (int most : outside(1, 9999)) {
            refused(x, "most " + most, () -> x.thing(word("hats"), most));
        }
        refused(x, "most 0", () -> x.thing(word("hats"), 0));
        refused(x, "most 10000", () -> x.thing(word("hats"), 10000));
        due("most 1", x.thing(word("hats"), 1), 3);
        due("most 9999", x.thing(word("nuts"), 9999), 4);
        narrow(x, 1, 20, 1, 20);
        due("1 at most: 1 / 1 alone", x.choose(2, 0, 0, 3, -1, -1), 1);
        due("9999 at most: all", x.choose(3, 0, 0, 4, -1, -1), 400);
        due("of 60 and 60", narrow(x, 60, 60, 60, 60).choose(3, 0, 0, 4, -1, -1), 1);
    }

    private static void numbersOfSentences() {
        sentence("Terms 2", "x a number 1 .. 9999");
        SumsInWords x = people();
        String[] sentences = {"ann has # pears.", "ann has # boxes.", "ann gets # pears.", "ann loses # pears.",
            "ann puts them into # boxes.", "in a box are # pears.", "ann has # pears more than ben.", "now ann has # pears."};
        for (String sentence : sentences) {
            int at = sentence.indexOf('#');
            for (String number : new String[] {"0", "00", "0001", "10000", "99999", "-1"}) {
                dueFault(x, sentence.replace("#", number), 1, at);
            }
            for (String number : new String[] {"1", "9", "10", "999", "1000", "9999"}) {
                String whole = sentence.replace("#", number);
                dueFault(x, whole, 1, whole.length());
            }
        }
        dueRead(x, "ann has 1 pears. ann gets 9999 pears. how many pears has ann?", 0);
        dueGot(x, 1, 9999);
    }

    private static void secondNameUnlike() {
        sentence("Terms 2", "one n, one t and one m, unlike n, throughout");
        SumsInWords x = people();
        due("choose", x.choose(4, 0, 1, 0, -1, -1), 400);
        for (int shape = 4; shape <= 5; shape++) {
            int told = shape;
            for (int n = 0; n < 3; n++) {
                int name = n;
                refused(x, "m is n", () -> x.choose(told, name, name, 0, -1, -1));
                refused(x, "m is n, idle", () -> x.choose(told, name, name, 0, (name + 1) % 3, 1));
            }
        }
        dueFault(x, "ann has 3 pears. ann has 2 pears more than ann. how many pears has ann?", 2, 48);
        dueFault(x, "ann has 3 pears. ann has 2 pears more than ann. how many pears have both?", 2, 48);
        dueFault(x, "ann has 2 pears more than ann. ann has 3 pears. how many pears have both?", 2, 48);
        // One n: each name of a tale changed alone.
        dueFault(x, "ann has 3 pears. ann gets 2 pears. how many pears has ben?", 2, 35);
        dueFault(x, "ann has 3 pears. ben loses 2 pears. how many pears has ann?", 2, 36);
        dueFault(x, "ben has 3 pears. ann puts them into 2 boxes. how many pears are in a box?", 2, 45);
        dueFault(x, "ann gets 3 pears. now ben has 9 pears. how many pears had ann?", 2, 39);
        dueFault(x, "ann gets 3 pears. now ann has 9 pears. how many pears had ben?", 2, 39);
        dueFault(x, "ann has 3 pears. ben has 2 pears more than cyd. how many pears has ben?", 2, 48);
        dueFault(x, "ann has 3 pears. ben has 2 pears more than ann. how many pears has cyd?", 2, 48);
        dueFault(x, "ann has 3 pears. ann gets 3 pears. ben puts them into 2 boxes. how many pears are in a box?", 2, 63);
        // One t: each thing of a tale changed alone.
        dueFault(x, "ann has 3 cups. ben has 2 pears more than ann. how many pears have both?", 2, 47);
        dueFault(x, "ann has 3 pears. ben has 2 cups more than ann. how many pears have both?", 2, 47);
        dueFault(x, "ann has 3 pears. ben has 2 pears more than ann. how many cups have both?", 2, 48);
        dueFault(x, "ann gets 3 cups. now ann has 9 pears. how many pears had ann?", 2, 38);
        dueFault(x, "ann has 3 boxes. in a box are 2 cups. how many pears has ann?", 2, 38);
        dueFault(x, "ann has 3 cups. ann puts them into 2 boxes. how many pears are in a box?", 2, 44);
    }

    private static void turnedShapes() {
        sentence("Terms 2", "TURNED, of SHAPES 3, 4, 5: the first two SENTENCES change places (X and Y stay theirs).");
        SumsInWords x = narrow(people(), 6, 6, 2, 2, 4, 4, 1, 1);
        for (int shape = 0; shape < 8; shape++) {
            for (int idle = 0; idle <= 1; idle++) {
                due("choose", x.choose(shape, 0, 1, 0, idle == 0 ? -1 : 2, idle == 0 ? -1 : 1), 1);
                due("write", x.write(0, false, 0) > 0, true);
                if (shape < 3 || shape > 5) {
                    refused(x, "turned " + shape, () -> x.write(0, true, 0));
                    continue;
                }
                due("turned " + shape, x.write(0, true, 0), x.count(2));
                due("take", x.take(), x.count(2));
                due("read", x.read(), shape + 8 + 16 * idle);
                dueGot(x, 6, 2);
            }
        }
        dueFault(x, "ann gets 3 pears. ann has 9 pears. how many pears has ann?", 2, 35);
        dueFault(x, "ann loses 3 pears. ann has 9 pears. how many pears has ann?", 2, 36);
        dueFault(x, "ann puts them into 3 boxes. ann has 9 pears. how many pears are in a box?", 2, 45);
        dueFault(x, "now ann has 9 pears. ann gets 3 pears. how many pears had ann?", 2, 39);
        dueFault(x, "ann gets 1 pears. ann has 9 pears. ann puts them into 3 boxes. how many pears are in a box?", 2, 63);
        dueFault(x, "ann has 1 pears. ann puts them into 3 boxes. ann gets 9 pears. how many pears are in a box?", 2, 63);
    }

    private static void oneIdle() {
        sentence("Terms 2", "IDLE: one SENTENCE A more");
        SumsInWords x = people();
        dueRead(x, TALE, 0);
        dueRead(x, "ben has 1 cups. " + TALE, 16);
        dueFault(x, "ben has 1 cups. cyd has 1 figs. " + TALE, 2, 67);
        dueFault(x, "ben has 1 cups. ben has 1 cups. " + TALE, 2, 67);
        dueFault(x, "ben has 1 boxes. " + TALE, 2, 52);
        dueFault(x, "ben gets 1 cups. " + TALE, 2, 52);
        dueFault(x, "ben loses 1 cups. " + TALE, 2, 53);
        dueFault(x, "now ben has 1 cups. " + TALE, 2, 55);
        dueFault(x, "in a box are 1 cups. " + TALE, 2, 56);
        dueFault(x, "ben has 1 cups more than cyd. " + TALE, 2, 65);
        dueFault(x, "ben puts them into 1 boxes. " + TALE, 2, 63);
        dueFault(x, "ben has 1 cups. " + NO_SENTENCE, 2, 16);
    }

    private static void idleNameUnlike() {
        sentence("Terms 2", "with another NAME than all others of the tale");
        SumsInWords x = people();
        due("choose", x.choose(5, 0, 1, 0, 2, 1), 400 * 20);
        for (int shape = 0; shape < 8; shape++) {
            int told = shape;
            refused(x, "idle n, shape " + shape, () -> x.choose(told, 2, 1, 0, 2, 1));
        }
        refused(x, "idle m, shape 4", () -> x.choose(4, 0, 2, 0, 2, 1));
        refused(x, "idle m, shape 5", () -> x.choose(5, 0, 2, 0, 2, 1));
        dueFault(x, "ann has 1 cups. " + TALE, 2, 51);
        dueFault(x, "ann has 3 boxes. ann has 5 cups. in a box are 4 pears. how many pears has ann?", 2, 55);
        dueFault(x, "ann gets 3 pears. now ann has 4 pears. ann has 1 cups. how many pears had ann?", 2, 55);
        dueFault(x, "ann has 3 pears. ben has 2 pears more than ann. ann has 5 cups. how many pears have both?", 2, 64);
        dueFault(x, "ann has 3 pears. ben has 2 pears more than ann. ben has 5 cups. how many pears have both?", 2, 64);
        dueRead(x, "ann has 3 pears. ben has 2 pears more than ann. cyd has 5 cups. how many pears have both?", 21);
    }

    private static void idleThingUnlike() {
        sentence("Terms 2", "another THING, and a number I");
        SumsInWords x = people();
        due("choose", x.choose(5, 0, 1, 0, 2, 1), 400 * 20);
        for (int shape = 0; shape < 8; shape++) {
            int told = shape;
            refused(x, "idle t, shape " + shape, () -> x.choose(told, 0, 1, 1, 2, 1));
        }
        dueFault(x, "ben has 1 pears. " + TALE, 2, 52);
        dueFault(x, "ben has 1 pears. ann has 3 boxes. in a box are 4 pears. how many pears has ann?", 2, 56);
        dueFault(x, "ann gets 3 pears. ben has 1 pears. now ann has 4 pears. how many pears had ann?", 2, 56);
        dueFault(x, "ann has 3 pears. ben has 2 pears more than ann. cyd has 5 pears. how many pears has ben?", 2, 65);
        dueRead(x, "ann gets 3 pears. ben has 1 figs. now ann has 4 pears. how many pears had ann?", 22);
    }

    private static void idlePlaces() {
        sentence("Terms 2", "ahead of any other SENTENCE or the QUESTION");
        SumsInWords x = narrow(people(), 6, 6, 2, 2, 4, 4, 1, 1);
        for (int shape = 0; shape < 8; shape++) {
            due("choose", x.choose(shape, 0, 1, 0, 2, 1), 1);
            for (int place = 0; place <= (shape == 7 ? 3 : 2); place++) {
                due("write", x.write(0, false, place), x.count(2));
                due("take", x.take(), x.count(2));
                due("read", x.read(), shape + 16);
                due("place", x.got(9), place);
                due("I", x.got(3), 1);
            }
        }
        dueFault(x, TALE + " ben has 1 cups.", 1, 59);
    }

    private static void spanEnds() {
        sentence("Terms 3", "from a least to a greatest one, 1 .. 60 each");
        SumsInWords x = people();
        due("choose", x.choose(7, 0, 1, 0, 1, 1), 28620);
        for (int what = 0; what < 4; what++) {
            int told = what;
            for (int end : outside(1, 60)) {
                refused(x, "least " + end, () -> x.span(told, end, 5), false);
                refused(x, "greatest " + end, () -> x.span(told, 50, end), false);
                refused(x, "both " + end, () -> x.span(told, end, end), false);
            }
            refused(x, "least above greatest", () -> x.span(told, 6, 5), false);
            refused(x, "60 .. 1", () -> x.span(told, 60, 1), false);
            refused(x, "all of int", () -> x.span(told, Integer.MIN_VALUE, Integer.MAX_VALUE), false);
            refused(x, "turned about", () -> x.span(told, Integer.MAX_VALUE, Integer.MIN_VALUE), false);
        }
        for (int what = 0; what < 4; what++) {
            SumsInWords y = people();
            due("1 .. 1", y.span(what, 1, 1), true);
            due("choose", y.choose(7, 0, 1, 0, 1, 1) > 0, true);
            dueEnds(y, what, 1, 1);
        }
        SumsInWords z = narrow(people(), 60, 60, 60, 60, 60, 60, 60, 60);
        due("thing", z.thing(word("hats"), 9999), 3);
        due("60 and 60 by 60", z.choose(7, 0, 1, 3, 1, 1), 1);
        dueSet(z, 0, 60, 60, 60, 60, 2);
    }

    /** The least and the greatest that one of the numbers is, in all sets that fit. */
    private static void dueEnds(SumsInWords x, int what, int least, int greatest) {
        int low = Integer.MAX_VALUE;
        int high = Integer.MIN_VALUE;
        for (int k = 0; k < x.sets(); k++) {
            low = Math.min(low, x.set(k, what));
            high = Math.max(high, x.set(k, what));
        }
        due("the least of " + what, low, least);
        due("the greatest of " + what, high, greatest);
    }

    private static void spanWidth() {
        sentence("Terms 3", "20 numbers at most");
        SumsInWords x = people();
        due("choose", x.choose(0, 0, 1, 0, 1, 1), 8000);
        for (int what = 0; what < 4; what++) {
            int told = what;
            refused(x, "1 .. 21", () -> x.span(told, 1, 21), false);
            refused(x, "40 .. 60", () -> x.span(told, 40, 60), false);
            refused(x, "1 .. 60", () -> x.span(told, 1, 60), false);
        }
        for (int what : new int[] {0, 1, 3}) {
            due("41 .. 60", x.span(what, 41, 60), true);
            due("2 .. 21", x.span(what, 2, 21), true);
            due("all 20", x.sets(), 8000);
            dueEnds(x, what, 2, 21);
        }
    }

    private static void spansAtFirst() {
        sentence("Terms 3", "(1 .. 20 at first)");
        SumsInWords x = people();
        due("choose", x.choose(7, 0, 1, 0, 1, 1), 28620);
        for (int what = 0; what < 4; what++) {
            SumsInWords y = people();
            y.choose(7, 0, 1, 0, 1, 1);
            for (int other = 0; other < 4; other++) {
                if (other != what) {
                    y.span(other, other == 2 || what != 2 ? 1 : 10, other == 2 || what != 2 ? 1 : 10);
                }
            }
            // 10 and 10 by 1, 2, 4, 5, 10, 20.
            due("how many of " + what, y.sets(), what == 2 ? 6 : 20);
            dueEnds(y, what, 1, 20);
        }
    }

    private static int fits(int shape, int most, int... numbers) {
        SumsInWords x = new SumsInWords();
        x.name(word("ann"));
        x.name(word("ben"));
        x.thing(word("pears"), most);
        for (int what = 0; what < numbers.length; what++) {
            x.span(what, numbers[what], numbers[what]);
        }
        return x.choose(shape, 0, 1, 0, -1, -1);
    }

    private static void answerWholeAndOne() {
        sentence("Terms 3", "it FITS if the ANSWER is a whole number, 1 at least");
        for (int shape : new int[] {1, 6}) {
            due("5 - 4", fits(shape, 99, 5, 4), 1);
            due("5 - 5", fits(shape, 99, 5, 5), 0);
            due("5 - 6", fits(shape, 99, 5, 6), 0);
            due("1 - 60", fits(shape, 99, 1, 60), 0);
        }
        due("6 / 3", fits(2, 99, 6, 3), 1);
        due("6 / 6", fits(2, 99, 6, 6), 1);
        due("6 / 4", fits(2, 99, 6, 4), 0);
        due("6 / 7", fits(2, 99, 6, 7), 0);
        due("6 / 12", fits(2, 99, 6, 12), 0);
        due("1 / 1", fits(2, 99, 1, 1), 1);
        due("(1 + 1) / 2", fits(7, 99, 1, 1, 2), 1);
        due("(1 + 1) / 1", fits(7, 99, 1, 1, 1), 1);
        due("(1 + 1) / 3", fits(7, 99, 1, 1, 3), 0);
        due("(1 + 2) / 2", fits(7, 99, 1, 2, 2), 0);
        due("(2 + 2) / 8", fits(7, 99, 2, 2, 8), 0);
        for (int shape : new int[] {0, 3, 4, 5}) {
            due("1 and 1, shape " + shape, fits(shape, 99, 1, 1), 1);
        }
    }

    private static void mostOfEachShape() {
        sentence("Terms 3", "X (of SHAPE 3 not), Y (of SHAPE 2 not), the ANSWER, and of SHAPE 7 X + Y, of SHAPE 5 X + Y,"
            + " are at most the MOST of t");
        // Of 12 and 4, by 8: the least MOST with which they fit.
        int[] least = {16, 12, 12, 48, 16, 28, 12, 16};
        for (int shape = 0; shape < 8; shape++) {
            due("shape " + shape + ", at the most", fits(shape, least[shape], 12, 4, 8), 1);
            due("shape " + shape + ", beyond", fits(shape, least[shape] - 1, 12, 4, 8), 0);
            due("shape " + shape + ", most 1", fits(shape, 1, 12, 4, 8), 0);
        }
        due("Y at the most, X and Y of shape 3", fits(3, 20, 1, 20), 1);
        due("Y beyond the most", fits(3, 20, 1, 21), 0);
        due("X at the most, of boxes", fits(3, 20, 20, 1), 1);
        due("X and Y at the most, shape 2", fits(2, 20, 20, 20), 1);
        due("X at the most, Y next to it", fits(1, 20, 20, 19), 1);
        due("Z beyond the most", fits(7, 20, 10, 10, 20), 1);
        due("Z far beyond what there is", fits(7, 20, 10, 10, 40), 0);
    }

    private static void mostOfIdle() {
        sentence("Terms 3", "I that of its THING");
        SumsInWords x = people();
        narrow(x, 20, 20, 2, 2);
        // figs has 5 at most, pears and cups 90.
        for (int shape = 0; shape < 8; shape++) {
            due("span", x.span(2, 1, 1), true);
            due("span", x.span(3, 1, 20), true);
            due("I to 5", x.choose(shape, 0, 1, 0, 2, 2), 5);
            due("the last", x.set(4, 3), 5);
            due("5 .. 24", x.span(3, 5, 24), true);
            due("I is 5", x.sets(), 1);
            due("6 .. 25", x.span(3, 6, 25), true);
            due("I is none", x.sets(), 0);
        }
        due("the most of t isn't that of I", narrow(x, 1, 1, 1, 1, 1, 1, 20, 20).choose(0, 0, 1, 2, 2, 0), 1);
    }

    private static void temptingUnlike() {
        sentence("Terms 3", "the numbers that the WAYS tell which are tempting are unlike the ANSWER and each other");
        SumsInWords x = narrow(people(), 4, 4, 2, 2);
        due("4 / 2", x.choose(2, 0, 1, 0, -1, -1), 1);
        dueWays(x, 0b000010, 0);
        dueWays(x, 0b000001, 1);
        dueWays(x, 0b000101, 1);
        // X + Y and all together are 6.
        dueWays(x, 0b001000, 1);
        dueWays(x, 0b001001, 0);
        dueWays(x, 0b010101, 1);
        due("2 / 2", narrow(x, 2, 2, 2, 2).ways(0), true);
        // The sum and the product are 4, the greatest is 2, the difference 0; the answer is 1.
        dueWays(x, 0b000101, 0);
        dueWays(x, 0b000011, 1);
        dueWays(x, 0b010011, 1);
        due("2 + 3", narrow(x, 2, 2, 3, 3, 1, 1, 1, 1).choose(0, 0, 1, 0, 2, 1), 1);
        // With I 1: the difference is 1, the product 6, all together 6, the greatest 3, 5 and 1 are 6.
        dueWays(x, 0b001000, 1);
        dueWays(x, 0b100000, 1);
        dueWays(x, 0b101000, 0);
        dueWays(x, 0b001100, 0);
        dueWays(x, 0b100100, 0);
        dueWays(x, 0b010110, 1);
        due("I 5, the greatest", x.span(3, 5, 5), true);
        dueWays(x, 0b010000, 0);
        due("I 6, the greatest", x.span(3, 6, 6), true);
        dueWays(x, 0b010000, 1);
        dueWays(x, 0b010100, 0);
    }

    private static void dueWays(SumsInWords x, int bits, int sets) {
        due("ways " + bits, x.ways(bits), true);
        due("sets by ways " + bits, x.sets(), sets);
    }

    private static void orderOfSets() {
        sentence("Terms 3", "SETS that FIT are counted in order of X, then Y, Z, I.");
        SumsInWords x = narrow(people(), 2, 3, 4, 5, 1, 2, 8, 9);
        due("choose", x.choose(7, 0, 1, 0, 2, 1), 12);
        int[][] sets = {{2, 4, 1, 8}, {2, 4, 1, 9}, {2, 4, 2, 8}, {2, 4, 2, 9}, {2, 5, 1, 8}, {2, 5, 1, 9},
            {3, 4, 1, 8}, {3, 4, 1, 9}, {3, 5, 1, 8}, {3, 5, 1, 9}, {3, 5, 2, 8}, {3, 5, 2, 9}};
        for (int k = 0; k < sets.length; k++) {
            dueSet(x, k, sets[k]);
        }
        for (int k = sets.length - 1; k >= 0; k--) {
            dueSet(x, k, sets[k]);
        }
        due("the one ahead of the first", x.set(-1, 0), -1);
        due("the one behind the last", x.set(12, 0), -1);
        dueSet(x, 11, sets[11]);
        dueSet(x, 0, sets[0]);
    }

    private static void differenceNotBelowZero() {
        sentence("Terms 3", "1 X less Y, or Y less X, which is not below 0");
        SumsInWords x = people();
        x.choose(0, 0, 1, 0, -1, -1);
        due("9 and 4", narrow(x, 9, 9, 4, 4).set(0, 6), 5);
        due("4 and 9", narrow(x, 4, 4, 9, 9).set(0, 6), 5);
        due("9 and 9", narrow(x, 9, 9, 9, 9).set(0, 6), 0);
        due("9 and 10", narrow(x, 9, 9, 10, 10).set(0, 6), 1);
        due("ways", x.ways(2), true);
        due("tells 0", narrow(x, 9, 9, 9, 9).tells(0, 0), 2);
        due("doesn't tell below 0", narrow(x, 4, 4, 9, 9).tells(0, -5), 0);
        due("tells 5", x.tells(0, 5), 2);
    }

    private static void noWaysAtFirst() {
        sentence("Terms 3", "(bits; none at first)");
        for (int shape = 0; shape < 8; shape++) {
            SumsInWords x = narrow(people(), 2, 2, 1, 1, 1, 1, 1, 1);
            due("choose", x.choose(shape, 0, 1, 0, 2, 1), 1);
            for (int way = 0; way < 6; way++) {
                int number = x.set(0, 5 + way);
                due("tells", x.tells(0, number), number == x.set(0, 4) ? 64 : 0);
            }
        }
    }

    private static void notTempting() {
        sentence("Terms 3", "but not: 0 of SHAPES 0, 4; 1 of 1, 6; 2 of 3; 3 of 0, 4 without IDLE; 5 without IDLE.");
        int[] without = {0b101001, 0b100010, 0b100000, 0b100100, 0b101001, 0b100000, 0b100010, 0b100000};
        int[] idle = {0b000001, 0b000010, 0, 0b000100, 0b000001, 0, 0b000010, 0};
        for (int shape = 0; shape < 8; shape++) {
            for (int way = 0; way < 6; way++) {
                dueTempting(shape, way, false, (without[shape] >> way & 1) == 0);
                dueTempting(shape, way, true, (idle[shape] >> way & 1) == 0);
            }
        }
    }

    /** A way that tempts tells its number, or leaves no set if that is the answer; one that doesn't does neither. */
    private static void dueTempting(int shape, int way, boolean idle, boolean tempts) {
        SumsInWords x = narrow(people(), 9, 9, 3, 3, 4, 4, 11, 11);
        due("choose", x.choose(shape, 0, 1, 0, idle ? 2 : -1, idle ? 1 : -1), 1);
        int number = x.set(0, 5 + way);
        int answer = x.set(0, 4);
        x.ways(1 << way);
        String what = "shape " + shape + ", way " + way + (idle ? ", idle" : "");
        due(what, x.sets(), tempts && number == answer ? 0 : 1);
        if (number != answer) {
            due(what + " tells", x.tells(0, number), tempts ? 1 << way : 0);
        }
    }

    private static void blanksWritten() {
        sentence("Terms 4", "with one blank between each two, no blank ahead of . and ?, one blank behind a .");
        SumsInWords x = new SumsInWords();
        x.name(word("b"));
        x.name(word("cccccccc"));
        x.thing(word("d"), 90);
        x.thing(word("eeeeeeee"), 90);
        narrow(x, 1, 1, 60, 60, 1, 1, 9, 9);
        due("choose", x.choose(7, 1, 0, 1, 0, 0), 1);
        dueTale(x, 0, false, 3, "cccccccc has 1 eeeeeeee. cccccccc gets 60 eeeeeeee. cccccccc puts them into 1 boxes."
            + " b has 9 d. how many eeeeeeee are in a box?");
        due("no blank ahead", x.written(0), (int) 'c');
        due("no blank at the end", x.written(x.count(2) - 1), (int) '?');
        due("choose", x.choose(6, 0, 0, 0, -1, -1), 0);
        narrow(x, 10, 10, 9, 9);
        dueTale(x, 0, false, 0, "b gets 9 d. now b has 10 d. how many d had b?");
    }

    private static void placesWritten() {
        sentence("Terms 4", "ahead of the SENTENCE (or the QUESTION) at a told place, from 0 on");
        SumsInWords x = narrow(people(), 6, 6, 2, 2, 4, 4, 1, 1);
        String[] sevens = {"ann has 6 pears.", "ann gets 2 pears.", "ann puts them into 4 boxes.",
            "how many pears are in a box?"};
        due("choose", x.choose(7, 0, 1, 0, 2, 1), 1);
        for (int place = 0; place <= 3; place++) {
            StringBuilder tale = new StringBuilder();
            for (int j = 0; j <= 3; j++) {
                tale.append(j == place ? "cyd has 1 cups. " : "").append(sevens[j]).append(j == 3 ? "" : " ");
            }
            dueTale(x, 0, false, place, tale.toString());
        }
        for (int place : outside(0, 3)) {
            refused(x, "place " + place + " of shape 7", () -> x.write(0, false, place));
        }
        for (int shape = 0; shape < 7; shape++) {
            due("choose", x.choose(shape, 0, 1, 0, 2, 1), 1);
            due("place 2", x.write(0, false, 2) > 0, true);
            for (int place : outside(0, 2)) {
                refused(x, "place " + place + " of shape " + shape, () -> x.write(0, false, place));
                if (shape >= 3 && shape <= 5) {
                    refused(x, "place " + place + ", turned", () -> x.write(0, true, place));
                }
            }
        }
    }

    private static String many(String text, int times) {
        return text.repeat(times);
    }

    private static void tapeAtMostFourHundred() {
        sentence("Terms 4", "THE TAPE has at most 400 bytes.");
        SumsInWords x = people();
        feedText(x, TALE + many(" ", 342));
        due("full", x.count(4), 400);
        refused(x, "a byte more", () -> x.feed(0, 0, 0, 0, 0));
        due("all are read", x.read(), 0);
        dueRead(x, many("\n", 342) + TALE, 0);
        dueFault(x, TALE + many(" ", 341) + "a", 1, 399);
        dueFault(x, many(" ", 400), 1, 400);
        dueFault(x, many("x", 400), 1, 0);
        dueFault(x, "ann has " + many("1", 392), 1, 8);
        SumsInWords y = new SumsInWords();
        y.name(word("b"));
        y.thing(word("t"), 9);
        dueFault(y, many("b has1t.", 50), 1, 400);
        dueFault(y, many("b has1t.", 47) + "how many t has b?      ?", 1, 399);
        dueFault(y, many("b has1t.", 47) + "how many t has b?       ", 2, 376);
    }

    private static void tokensAsLongAsTheyGo() {
        sentence("Terms 4", "TOKENS, as long as they go");
        SumsInWords x = people();
        due("name", x.name(word("an")), 3);
        due("thing", x.thing(word("pear"), 9), 3);
        dueRead(x, "ann has 3 pears. ann gets 4 pears. how many pears has ann?", 0);
        due("ann, not an", x.got(4), 0);
        due("pears, not pear", x.got(6), 0);
        dueRead(x, "an has 3 pear. an gets 4 pear. how many pear has an?", 0);
        due("an", x.got(4), 3);
        due("pear", x.got(6), 3);
        dueRead(x, "ann has 1234 pears. ann gets 12 pears. how many pears has ann?", 0);
        dueGot(x, 1234, 12);
        dueFault(x, "annn has 3 pears.", 1, 0);
        dueFault(x, "ann hass 3 pears.", 1, 4);
        dueFault(x, "ann has 12345 pears.", 1, 8);
        dueFault(x, "ann has 3 pearss.", 1, 10);
        // A word of the sentences, cut short or grown.
        dueFault(x, "ann ha 3 pears.", 1, 4);
        dueFault(x, "ann has 3 boxe.", 1, 10);
        dueFault(x, "ann puts the into", 1, 9);
        dueFault(x, "ann puts them in 3", 1, 14);
        dueFault(x, "i a box", 1, 0);
        dueFault(x, "in a bo are", 1, 5);
        dueFault(x, "in a boxes are", 1, 5);
        dueFault(x, "in a box ar 3", 1, 9);
        dueFault(x, "ann has 3 pears mor than", 1, 16);
        dueFault(x, "no ann", 1, 0);
        dueFault(x, "ho many", 1, 0);
        dueFault(x, "how man pears", 1, 4);
        dueFault(x, "how many pears ha ann?", 1, 15);
        dueFault(x, "how many pears hav both?", 1, 15);
        dueFault(x, "how many pears have bot?", 1, 20);
        dueFault(x, "how many pears are in a bo?", 1, 24);
        dueFault(x, "how many pears are in a boxes?", 1, 24);
    }

    private static void blanksBetween() {
        sentence("Terms 4", "blanks (10, 32) between");
        SumsInWords x = people();
        String spread = many(" \n", 9);
        dueRead(x, spread + TALE.replace(" ", spread).replace("?", spread + "?") + spread, 0);
        dueRead(x, TALE.replace(" ", "\n"), 0);
        for (int sign = 0; sign < 256; sign++) {
            boolean known = sign == 10 || sign == 32 || sign == '.' || sign == '?' || sign >= '0' && sign <= '9'
                || sign >= 'a' && sign <= 'z';
            if (!known) {
                dueFault(x, (char) sign + TALE, 1, 0);
                dueFault(x, "ann" + (char) sign + "has", 1, 3);
                dueFault(x, TALE + (char) sign, 1, 58);
            }
        }
        dueRead(x, "ann has 3pears.ann gets 4pears.how many pears has ann?", 0);
        dueFault(x, "an n has 3 pears.", 1, 0);
        dueFault(x, "ann has 1 2 pears.", 1, 10);
    }

    private static void wordsRead() {
        sentence("Terms 4", "WORDS, rows of letters");
        SumsInWords x = new SumsInWords();
        x.name(word("b"));
        x.name(word("abcdefgh"));
        x.thing(word("z"), 9);
        x.thing(word("zzzzzzzz"), 9);
        dueRead(x, "b has 1 z. b gets 1 z. how many z has b?", 0);
        dueRead(x, "abcdefgh has 1 zzzzzzzz. abcdefgh gets 1 zzzzzzzz. how many zzzzzzzz has abcdefgh?", 0);
        dueFault(x, "abcdefg has", 1, 0);
        dueFault(x, "abcdefghi has", 1, 0);
        // Sixteen letters, of which a number of 64 bits would hold the last eight alone.
        dueFault(x, "abcdefghabcdefgh has", 1, 0);
        dueFault(x, "bbbbbbbbabcdefgh has", 1, 0);
        dueFault(x, "b has 1 zzzzzzzzz.", 1, 8);
        dueFault(x, "b has 1 aaaaaaaazzzzzzzz.", 1, 8);
        dueFault(x, "B has 1 z.", 1, 0);
    }

    private static void digitsOfNumbers() {
        sentence("Terms 4", "numbers, 1 to 4 digits, the first no 0");
        SumsInWords x = people();
        for (String number : new String[] {"1", "9", "10", "99", "100", "999", "1000", "9999", "1009"}) {
            dueRead(x, TALE.replace("3", number), 0);
            due(number, x.got(0), Integer.parseInt(number));
        }
        // Beyond 9999: what would wrap around to 3, too.
        for (String number : new String[] {"0", "00", "01", "0000", "09999", "00001", "10000", "12345", "4294967299",
            "18446744073709551619", "65539", "3000000000", "99999999999999999999"}) {
            dueFault(x, TALE.replace("3", number), 1, 8);
        }
        dueFault(x, "ann has / pears.", 1, 8);
        dueFault(x, "ann has : pears.", 1, 8);
    }

    private static void signsOfOneByte() {
        sentence("Terms 4", "signs . ? one byte each");
        SumsInWords x = people();
        dueRead(x, "ann has 3 pears .ann gets 4 pears . how many pears has ann ?", 0);
        dueFault(x, "ann has 3 pears..", 1, 16);
        dueFault(x, TALE + "?", 1, 58);
        dueFault(x, TALE + ".", 1, 58);
        dueFault(x, "ann has 3 pears.?", 1, 16);
        dueFault(x, ".", 1, 0);
        dueFault(x, "?", 1, 0);
    }

    private static void oneToFiveSentences() {
        sentence("Terms 4", "It is READ if it is one to five SENTENCES and a QUESTION, which are one tale of a SHAPE");
        SumsInWords x = people();
        dueFault(x, NO_SENTENCE, 2, 0);
        dueFault(x, "ann has 3 pears. " + NO_SENTENCE, 2, 17);
        dueRead(x, TALE, 0);
        dueRead(x, "ben has 1 cups. ann has 3 pears. ann gets 4 pears. ann puts them into 7 boxes."
            + " how many pears are in a box?", 23);
        for (int n = 3; n <= 21; n++) {
            String row = many("ben has 1 cups. ", n - 2) + "ann has 3 pears. ann gets 4 pears. " + NO_SENTENCE;
            if (row.length() > 400) {
                break;
            }
            if (n == 3) {
                dueRead(x, row, 16);
            } else {
                dueFault(x, row, 2, row.length() - NO_SENTENCE.length());
            }
        }
        dueFault(x, "ben has 1 cups. cyd has 2 figs. ann has 3 pears. ann gets 4 pears. ann puts them into 7 boxes."
            + " how many pears are in a box?", 2, 95);
        // The six that are told fill the row; the question behind them is still the fault's place.
        dueFault(x, many("ann has 3 pears. ", 6) + NO_SENTENCE, 2, 102);
    }

    /** All rows of one, two and three sentences with each question: those of a shape are read, all others are fault 2. */
    private static void rowsThatAreTales() {
        sentence("Terms 4", "which are one tale of a SHAPE, TURNED or not, IDLE or not");
        String letters = "ABCDEFGHI";
        String[] texts = {"ann has 8 pears. ", "ann has 8 boxes. ", "ann gets 8 pears. ", "ann loses 8 pears. ",
            "ann puts them into 8 boxes. ", "in a box are 8 pears. ", "ben has 8 pears more than ann. ",
            "now ann has 8 pears. ", "cyd has 8 cups. "};
        String asked = "PMQRS";
        String[] questions = {"how many pears has ann?", "how many pears has ben?", "how many pears are in a box?",
            "how many pears have both?", "how many pears had ann?"};
        for (int row = 0; row < 9 + 81 + 729; row++) {
            int size = row < 9 ? 1 : row < 90 ? 2 : 3;
            int rest = row - (size == 1 ? 0 : size == 2 ? 9 : 90);
            StringBuilder forms = new StringBuilder();
            StringBuilder text = new StringBuilder();
            for (int j = 0; j < size; j++) {
                forms.append(letters.charAt(rest % 9));
                text.append(texts[rest % 9]);
                rest /= 9;
            }
            for (int q = 0; q < 5; q++) {
                int code = codeOf(forms.toString() + asked.charAt(q));
                if (code >= 0) {
                    dueRead(people(), text + questions[q], code);
                } else {
                    dueFault(people(), text + questions[q], 2, text.length());
                }
            }
        }
    }

    /** What read() answers for a row of letters, in which I is an idle sentence and M the question P, of m. */
    private static int codeOf(String forms) {
        String[] tales = {"ACP", "ADP", "AEQ", "BFP", "AGM", "AGR", "CHS", "ACEQ"};
        String[] turned = {"", "", "", "FBP", "GAM", "GAR", "", ""};
        int at = forms.indexOf('I');
        String plain = at < 0 ? forms : forms.substring(0, at) + forms.substring(at + 1);
        for (int shape = 0; shape < 8; shape++) {
            if (plain.equals(tales[shape]) || plain.equals(turned[shape])) {
                return shape + (plain.equals(turned[shape]) ? 8 : 0) + (at < 0 ? 0 : 16);
            }
        }
        return -1;
    }

    private static void numbersReadInNoSpan() {
        sentence("Terms 4", "(numbers in no SPAN, FITTING nothing)");
        SumsInWords x = narrow(people(), 1, 1, 1, 1, 1, 1, 1, 1);
        due("ways", x.ways(63), true);
        due("choose", x.choose(0, 0, 1, 2, -1, -1) >= 0, true);
        dueRead(x, "cyd has 9999 cups. ann has 9999 figs. ann gets 9999 figs. how many figs has ann?", 16);
        dueGot(x, 9999, 9999, -1, 9999, 0, -1, 2, 2, 1, 0, 19998);
        dueRead(x, "ann has 61 figs. ann loses 62 figs. how many figs has ann?", 1);
        dueGot(x, 61, 62, -1, -1, 0, -1, 2, -1, -1, -1, -2);
    }

    private static void placesOfFaults() {
        sentence("Terms 4", "FAULTS, with places (a token's first byte; the end's)");
        SumsInWords x = people();
        dueFault(x, "", 1, 0);
        dueFault(x, " ", 1, 1);
        dueFault(x, "\n\n\n", 1, 3);
        dueFault(x, "ann", 1, 3);
        dueFault(x, "ann  ", 1, 5);
        dueFault(x, "ann  dog", 1, 5);
        dueFault(x, "ann has 3 pears. ann gets 4 pears. how many pears has ann", 1, 57);
        dueFault(x, "ann has 3 pears. ann gets 4 pears.", 1, 34);
        dueFault(x, "ann has 3 pears. ann gets 4 pears. \n", 1, 36);
        dueFault(x, "ann has 3 pears.\n\n how many pears has ann?", 2, 19);
    }

    private static void firstFault() {
        sentence("Terms 4", "1 the first byte or token with which no row of SENTENCES and QUESTION goes on (a NAME or THING"
            + " that is none, too)");
        SumsInWords x = people();
        dueFault(x, "ann has 3 dogs# has ??", 1, 10);
        dueFault(x, "ann has # dogs", 1, 8);
        dueFault(x, "ann has 3 pears. dan has 3 pears.", 1, 17);
        dueFault(x, "ann has 3 pears. has", 1, 17);
        dueFault(x, "how many dogs has ann?", 1, 9);
        dueFault(x, "how many pears has dan?", 1, 19);
        dueFault(x, "how many pears has pears?", 1, 19);
        dueFault(x, "ann has 3 pears more than dan.", 1, 26);
        dueFault(x, "now dan", 1, 4);
        dueFault(x, "in a box are 3 ann.", 1, 15);
        // A fault in the row comes ahead of one of the tale, wherever it stands.
        dueFault(x, NO_SENTENCE + " #", 1, 24);
        dueFault(x, many("ann has 3 pears. ", 7) + "how many pears has dan?", 1, 138);
        SumsInWords none = new SumsInWords();
        dueFault(none, TALE, 1, 0);
        dueFault(none, "now ann has 3 pears.", 1, 4);
        dueFault(none, "in a box are 3 pears.", 1, 15);
        dueFault(none, "how many pears", 1, 9);
    }

    private static void faultOfQuestion() {
        sentence("Terms 4", "2 the QUESTION's first token: no SENTENCE, more than five, or no tale of a SHAPE.");
        SumsInWords x = people();
        for (String question : new String[] {"how many pears has ann?", "how many pears are in a box?",
            "how many pears have both?", "how many pears had ann?"}) {
            dueFault(x, question, 2, 0);
            dueFault(x, "\n " + question + "\n ", 2, 2);
            dueFault(x, many("ann has 3 pears. ", 5) + question, 2, 85);
            dueFault(x, many("ann has 3 pears. ", 6) + question, 2, 102);
            dueFault(x, many("ann has 3 pears. ", 21) + question, 2, 357);
            dueFault(x, "ann has 3 pears. " + question, 2, 17);
        }
        // The first two of six are a tale, but six are too many.
        dueFault(x, "ann has 3 pears. ann gets 4 pears. " + many("ben has 1 cups. ", 4) + NO_SENTENCE, 2, 99);
    }
}
