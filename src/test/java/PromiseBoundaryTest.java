import java.io.IOException;

/** A test of its own for each sentence of the promises that names a boundary case. */
public final class PromiseBoundaryTest extends Kit {
    private static final String TALE = "ann has 3 pears. ann gets 4 pears. how many pears has ann?";
    private static final String OTHER = "cyd has 6 cups. ben has 3 pears more than ann. ann has 9 pears. how many pears has ben?";

    public static void main(String[] args) throws IOException {
        open(args);
        newObject();
        sixNames();
        sixThings();
        otherSpans();
        otherWays();
        secondNameCountsForNothing();
        idleNoneAndNone();
        noneSuchChosen();
        nothingChosen();
        setsAsTheyAreNow();
        noZAndNoI();
        waysNotTempting();
        noSuchSet();
        answerTold();
        noSuchSetTold();
        firstSetsOfSheet();
        fewerOnSheet();
        noSheet();
        noPlaceOnSheet();
        placeCountsForNothing();
        notWritten();
        noByteWritten();
        taken();
        nothingTaken();
        highestByteFirst();
        tapeFull();
        tapeCut();
        tapeNotCut();
        emptyOnceRead();
        shapesRead();
        faultsRead();
        noFault();
        taleAheadOfFault();
        noAnswer();
        noneGot();
        noCount();
        noImage();
        imagesStay();
        noneAgain();
        manyCalls();
        anyArguments();
        dueAllNamed("Promise");
        finish("all boundaries of the promises hold");
    }

    /** An object with something in every part of it. */
    private static SumsInWords full() {
        SumsInWords x = narrow(people(), 2, 9, 1, 3, 1, 2, 4, 5);
        due("ways", x.ways(4), true);
        due("choose", x.choose(5, 0, 1, 0, 2, 1) > 0, true);
        due("sheet", x.sheet(3), 3);
        due("write", x.write(1, true, 1) > 0, true);
        dueRead(x, OTHER, 28);
        dueFault(x, "how many dogs", 1, 9);
        feedText(x, TALE);
        return x;
    }

    private static void newObject() {
        sentence("Promise 1", "No NAMES, no THINGS, nothing CHOSEN, WRITTEN or READ; no images.");
        SumsInWords x = new SumsInWords();
        for (int what = 0; what <= 4; what++) {
            due("count " + what, x.count(what), 0);
        }
        due("no name, no thing", x.choose(0, 0, 0, 0, -1, -1), -1);
        due("sets", x.sets(), -1);
        due("set", x.set(0, 0), -1);
        due("tells", x.tells(0, 0), -1);
        due("sheet", x.sheet(1), -1);
        due("on", x.on(0), -1);
        due("write", x.write(0, false, 0), -1);
        due("written", x.written(0), -1);
        due("take", x.take(), -1);
        due("no fault", x.fault(0), 0);
        due("no place", x.fault(1), -1);
        for (int what = 0; what <= 10; what++) {
            due("got " + what, x.got(what), -1);
        }
        for (int k = 0; k <= 2; k++) {
            due("again " + k, x.again(k), false);
        }
        due("a name, no thing", x.name(word("ann")), 0);
        due("no thing", x.choose(0, 0, 0, 0, -1, -1), -1);
        due("a thing", x.thing(word("pears"), 90), 0);
        due("not yet chosen", x.sets(), -1);
        due("spans 1 .. 20, no ways", x.choose(0, 0, 0, 0, -1, -1), 400);
        due("another object has nothing of it", new SumsInWords().count(0), 0);
    }

    private static void sixNames() {
        sentence("Promise 2", "NONE: there are 6, or it can't be one.");
        SumsInWords x = full();
        refused(x, "no word", () -> x.name(0));
        refused(x, "not free", () -> x.name(word("pears")));
        refused(x, "kept", () -> x.name(word("both")));
        for (int j = 3; j < 6; j++) {
            due("name " + j, x.name(word("x" + (char) ('a' + j))), j);
        }
        refused(x, "a seventh", () -> x.name(word("xz")));
        refused(x, "one that is there", () -> x.name(word("ann")));
        due("the tape is as it was", x.read(), 0);
        dueFault(x, "xz has", 1, 0);
        due("the sixth is one", x.choose(0, 5, 0, 0, -1, -1) > 0, true);
        due("the seventh isn't", x.choose(0, 6, 0, 0, -1, -1), -1);
    }

    private static void sixThings() {
        sentence("Promise 3", "NONE: there are 6, or it can't be one, or another MOST.");
        SumsInWords x = full();
        refused(x, "no word", () -> x.thing(0, 9));
        refused(x, "not free", () -> x.thing(word("ann"), 9));
        refused(x, "kept", () -> x.thing(word("box"), 9));
        for (int most : outside(1, 9999)) {
            refused(x, "most " + most, () -> x.thing(word("hats"), most));
        }
        for (int j = 3; j < 6; j++) {
            due("thing " + j, x.thing(word("x" + (char) ('a' + j)), j), j);
        }
        refused(x, "a seventh", () -> x.thing(word("xz"), 9));
        refused(x, "one that is there, with another most", () -> x.thing(word("pears"), 9));
        due("the sixth is one", x.choose(2, 0, 0, 5, -1, -1) > 0, true);
        due("the seventh isn't", x.choose(0, 0, 0, 6, -1, -1), -1);
    }

    private static void otherSpans() {
        sentence("Promise 4", "what 0: X, 1: Y, 2: Z, 3: I: true; false for others.");
        SumsInWords x = full();
        for (int what : outside(0, 3)) {
            refused(x, "what " + what, () -> x.span(what, 1, 5), false);
        }
        for (int what = 0; what < 4; what++) {
            int told = what;
            refused(x, "least 0", () -> x.span(told, 0, 5), false);
            refused(x, "greatest 61", () -> x.span(told, 55, 61), false);
            refused(x, "21 numbers", () -> x.span(told, 30, 50), false);
            refused(x, "no number", () -> x.span(told, 5, 4), false);
        }
        due("choose", x.choose(7, 0, 1, 0, 2, 1) > 0, true);
        int[] numbers = {40, 20, 30, 50};
        for (int what = 0; what < 4; what++) {
            due("span " + what, x.span(what, numbers[what], numbers[what]), true);
        }
        due("one", x.sets(), 1);
        dueSet(x, 0, 40, 20, 30, 50, 2);
    }

    private static void otherWays() {
        sentence("Promise 5", "WAYS that are told (bits 0 .. 5): true; false for others.");
        SumsInWords x = full();
        for (int bits : outside(0, 63)) {
            refused(x, "ways " + bits, () -> x.ways(bits), false);
        }
        for (int bit = 6; bit < 32; bit++) {
            int bits = 1 << bit;
            refused(x, "bit " + bit, () -> x.ways(bits), false);
            refused(x, "bit " + bit + " and 2", () -> x.ways(bits | 4), false);
        }
        for (int bits = 0; bits < 64; bits++) {
            due("ways " + bits, x.ways(bits), true);
        }
        SumsInWords y = narrow(people(), 7, 7, 2, 2, 1, 1, 20, 20);
        due("choose", y.choose(5, 0, 1, 0, 2, 1), 1);
        // The answer is 16; the ways tell 9, 5, 14, 29, 20, 36.
        int[] numbers = {9, 5, 14, 29, 20, 36};
        for (int bits = 0; bits < 64; bits++) {
            y.ways(bits);
            for (int way = 0; way < 6; way++) {
                due("ways " + bits + " tell " + numbers[way], y.tells(0, numbers[way]), bits & 1 << way);
            }
        }
    }

    private static void secondNameCountsForNothing() {
        sentence("Promise 6", "m (of SHAPES 4, 5 alone, else it counts for nothing)");
        for (int shape = 0; shape < 8; shape++) {
            SumsInWords x = narrow(people(), 6, 6, 2, 2, 4, 4, 1, 1);
            boolean alone = shape == 4 || shape == 5;
            for (int m : outside(0, 2)) {
                due("shape " + shape + ", m " + m, x.choose(shape, 0, m, 0, -1, -1), alone ? -1 : 1);
            }
            due("shape " + shape + ", m is n", x.choose(shape, 0, 0, 0, -1, -1), alone ? -1 : 1);
            due("shape " + shape + ", m is the idle name", x.choose(shape, 0, 2, 0, 2, 1), alone ? -1 : 1);
            due("shape " + shape + ", m is n, idle", x.choose(shape, 0, 0, 0, 2, 1), alone ? -1 : 1);
            due("shape " + shape + ", m another", x.choose(shape, 0, 1, 0, 2, 1), 1);
        }
    }

    private static void idleNoneAndNone() {
        sentence("Promise 6", "the IDLE NAME and THING, NONE and NONE without");
        SumsInWords x = narrow(people(), 6, 6, 2, 2, 4, 4, 1, 3);
        for (int shape = 0; shape < 8; shape++) {
            due("without", x.choose(shape, 0, 1, 0, -1, -1), 1);
            due("no I", x.set(0, 3), 0);
            due("idle", x.choose(shape, 0, 1, 0, 2, 1), 3);
            int told = shape;
            refused(x, "a name alone", () -> x.choose(told, 0, 1, 0, 2, -1));
            refused(x, "a thing alone", () -> x.choose(told, 0, 1, 0, -1, 1));
        }
    }

    private static void noneSuchChosen() {
        sentence("Promise 6", "NONE: there is none such (of any), or these are not unlike as told.");
        SumsInWords x = full();
        for (int none : outside(0, 7)) {
            refused(x, "shape " + none, () -> x.choose(none, 0, 1, 0, -1, -1));
        }
        for (int none : outside(0, 2)) {
            refused(x, "n " + none, () -> x.choose(0, none, 1, 0, -1, -1));
            refused(x, "m " + none, () -> x.choose(4, 0, none, 0, -1, -1));
            refused(x, "m " + none, () -> x.choose(5, 0, none, 0, -1, -1));
            refused(x, "t " + none, () -> x.choose(0, 0, 1, none, -1, -1));
            refused(x, "idle name " + none, () -> x.choose(0, 0, 1, 0, none, 1));
            refused(x, "idle thing " + none, () -> x.choose(0, 0, 1, 0, 2, none));
            refused(x, "n " + none + ", idle", () -> x.choose(0, none, 1, 0, 2, 1));
            refused(x, "t " + none + ", idle", () -> x.choose(0, 0, 1, none, 2, 1));
        }
        refused(x, "neither, below NONE", () -> x.choose(0, 0, 1, 0, -2, -2));
        refused(x, "m is n", () -> x.choose(4, 1, 1, 0, -1, -1));
        refused(x, "m is n", () -> x.choose(5, 1, 1, 0, -1, -1));
        refused(x, "the idle name is n", () -> x.choose(5, 0, 1, 0, 0, 1));
        refused(x, "the idle name is m", () -> x.choose(5, 0, 1, 0, 1, 1));
        refused(x, "the idle thing is t", () -> x.choose(5, 0, 1, 0, 2, 0));
        due("none fits, but it is chosen", narrow(x, 2, 2, 9, 9).choose(1, 0, 1, 0, -1, -1), 0);
        due("none fits", x.sets(), 0);
    }

    private static void nothingChosen() {
        sentence("Promise 7", "NONE: nothing is CHOSEN.");
        SumsInWords x = people();
        due("at first", x.sets(), -1);
        x.span(0, 1, 2);
        x.ways(3);
        due("spans and ways choose nothing", x.sets(), -1);
        due("a choice refused", x.choose(8, 0, 1, 0, -1, -1), -1);
        due("chooses nothing", x.sets(), -1);
        due("image", x.image(0), true);
        due("choose", x.choose(0, 0, 1, 0, -1, -1) >= 0, true);
        due("again", x.again(0), true);
        due("nothing once more", x.sets(), -1);
    }

    private static void setsAsTheyAreNow() {
        sentence("Promise 7", "by SPANS and WAYS as they are now");
        SumsInWords x = people();
        due("choose", x.choose(0, 0, 1, 0, -1, -1), 400);
        due("one X", narrow(x, 60, 60).sets(), 20);
        due("one Y", narrow(x, 60, 60, 31, 50).sets(), 0);
        due("at the most, 90", narrow(x, 60, 60, 30, 49).sets(), 1);
        due("the difference", x.ways(2), true);
        due("one still", x.sets(), 1);
        // 30 and 60: the difference, and the lesser of them.
        due("the greatest", x.ways(16), true);
        due("60 tempts", x.tells(0, 60), 16);
        due("twice 30", narrow(x, 30, 30, 30, 30).sets(), 1);
        due("2 and 2", narrow(x, 2, 2, 2, 2).ways(4), true);
        due("the product is the answer", x.sets(), 0);
        due("none tempts", x.ways(0), true);
        due("one again", x.sets(), 1);
        due("a name and a thing change nothing", x.thing(word("hats"), 1) + x.name(word("dot")), 6);
        due("one still", x.sets(), 1);
    }

    private static void noZAndNoI() {
        sentence("Promise 8", "(2, 3: 0 where there is none)");
        for (int shape = 0; shape < 8; shape++) {
            SumsInWords x = narrow(people(), 6, 6, 2, 2, 4, 4, 5, 5);
            due("choose", x.choose(shape, 0, 1, 0, -1, -1), 1);
            due("Z of " + shape, x.set(0, 2), shape == 7 ? 4 : 0);
            due("I of " + shape, x.set(0, 3), 0);
            due("choose", x.choose(shape, 0, 1, 0, 2, 1), 1);
            due("Z of " + shape + ", idle", x.set(0, 2), shape == 7 ? 4 : 0);
            due("I of " + shape + ", idle", x.set(0, 3), 5);
        }
    }

    private static void waysNotTempting() {
        sentence("Promise 8", "(also if it is not tempting; WAY 5 without IDLE: the ANSWER)");
        for (int shape = 0; shape < 8; shape++) {
            SumsInWords x = narrow(people(), 6, 6, 2, 2, 4, 4, 50, 50);
            due("choose", x.choose(shape, 0, 1, 0, -1, -1), 1);
            int z = shape == 7 ? 4 : 0;
            int[] without = {8, 4, 12, 8 + z, 6, x.set(0, 4)};
            for (int way = 0; way < 6; way++) {
                due("shape " + shape + ", way " + way, x.set(0, 5 + way), without[way]);
            }
            due("choose", x.choose(shape, 0, 1, 0, 2, 1), 1);
            int[] idle = {8, 4, 12, 58 + z, 50, x.set(0, 4) + 50};
            for (int way = 0; way < 6; way++) {
                due("shape " + shape + ", way " + way + ", idle", x.set(0, 5 + way), idle[way]);
            }
        }
        SumsInWords y = narrow(people(), 1, 1, 1, 1, 20, 20);
        due("choose", y.choose(0, 0, 1, 0, -1, -1), 1);
        due("a span of a Z that isn't there counts for nothing", y.set(0, 9), 1);
    }

    private static void noSuchSet() {
        sentence("Promise 8", "NONE: there is none such, or for another what.");
        SumsInWords x = full();
        int sets = x.sets();
        for (int what = 0; what <= 10; what++) {
            int told = what;
            for (int k : outside(0, sets - 1)) {
                refused(x, "set " + k + ", " + what, () -> x.set(k, told));
            }
            due("the first", x.set(0, what) >= 0, true);
            due("the last", x.set(sets - 1, what) >= 0, true);
        }
        for (int what : outside(0, 10)) {
            refused(x, "what " + what, () -> x.set(0, what));
            refused(x, "what " + what, () -> x.set(sets - 1, what));
            refused(x, "neither", () -> x.set(sets, what));
        }
        SumsInWords none = people();
        due("nothing chosen", none.set(0, 4), -1);
        due("none fits", narrow(none, 1, 1, 2, 2).choose(1, 0, 1, 0, -1, -1), 0);
        due("no set 0", none.set(0, 4), -1);
        SumsInWords uncounted = people();
        uncounted.choose(1, 0, 1, 0, -1, -1);
        uncounted.span(0, 2, 2);
        due("behind the last, not counted yet", uncounted.set(1, 0), -1);
        due("the first", uncounted.set(0, 0), 2);
    }

    private static void answerTold() {
        sentence("Promise 9", "Which tempting WAYS of SET k tell a number (bits), 64 if the ANSWER is that.");
        SumsInWords x = narrow(people(), 7, 7, 2, 2, 1, 1, 20, 20);
        due("choose", x.choose(5, 0, 1, 0, 2, 1), 1);
        for (int bits = 0; bits < 64; bits++) {
            x.ways(bits);
            due("16, ways " + bits, x.tells(0, 16), 64);
        }
        for (int number : new int[] {Integer.MIN_VALUE, -16, -1, 0, 15, 17, 16 + 256, 16 + 65536, Integer.MAX_VALUE}) {
            due("another, " + number, x.tells(0, number), 0);
        }
        due("a way that isn't told", x.ways(62), true);
        due("9", x.tells(0, 9), 0);
        due("5", x.tells(0, 5), 2);
        // 2 and 2: the sum and the product are 4, of which one alone may be told.
        due("2 / 2", narrow(x, 2, 2, 2, 2).choose(2, 0, 1, 0, -1, -1), 0);
        due("the product", x.ways(4), true);
        due("4", x.tells(0, 4), 4);
        due("the sum", x.ways(1), true);
        due("4", x.tells(0, 4), 1);
        due("1", x.tells(0, 1), 64);
    }

    private static void noSuchSetTold() {
        sentence("Promise 9", "NONE: there is no such SET.");
        SumsInWords x = full();
        int sets = x.sets();
        for (int k : outside(0, sets - 1)) {
            refused(x, "set " + k, () -> x.tells(k, 7));
            refused(x, "set " + k, () -> x.tells(k, -1));
        }
        due("the last", x.tells(sets - 1, x.set(sets - 1, 4)), 64);
        SumsInWords none = people();
        due("nothing chosen", none.tells(0, 4), -1);
        due("none fits", narrow(none, 1, 1, 2, 2).choose(1, 0, 1, 0, -1, -1), 0);
        due("no set 0", none.tells(0, -1), -1);
    }

    private static void firstSetsOfSheet() {
        sentence("Promise 10", "the first n SETS, 1 .. 20, such that each has another ANSWER than all ahead of it on the SHEET");
        SumsInWords x = people();
        due("choose", x.choose(0, 0, 1, 0, -1, -1), 400);
        // The answers go from 2 up: 20 with X as 1, then one more with each X.
        for (int n = 1; n <= 20; n++) {
            due("sheet " + n, x.sheet(n), n);
            due("its size", x.count(3), n);
            due("its last", x.on(n - 1), n - 1);
            due("no more", x.on(n), -1);
        }
        due("choose", x.choose(3, 0, 1, 0, -1, -1) > 0, true);
        due("sheet", x.sheet(20), 20);
        for (int j = 0; j < 20; j++) {
            for (int ahead = 0; ahead < j; ahead++) {
                due("ahead", x.on(ahead) < x.on(j), true);
                due("another", x.set(x.on(ahead), 4) != x.set(x.on(j), 4), true);
            }
        }
        SumsInWords y = narrow(people(), 9, 9, 8, 9);
        due("choose", y.choose(0, 0, 1, 0, -1, -1), 2);
        due("sheet", y.sheet(2), 2);
        due("17, then 18", narrow(y, 9, 10, 8, 9).sheet(20), 3);
        due("18 is there, 19 is the third", y.on(2), 3);
    }

    private static void fewerOnSheet() {
        sentence("Promise 10", "how many there are.");
        SumsInWords x = narrow(people(), 5, 5, 1, 20);
        due("choose", x.choose(1, 0, 1, 0, -1, -1), 4);
        due("four of four", x.sheet(4), 4);
        due("four of five", x.sheet(5), 4);
        due("four of twenty", x.sheet(20), 4);
        due("one answer alone", narrow(x, 2, 20, 1, 1).sheet(20), 19);
        due("one answer alone", narrow(x, 5, 5, 5, 20).sheet(20), 0);
        due("empty", x.count(3), 0);
        due("empty", x.on(0), -1);
        due("all of one answer", narrow(x, 5, 5, 1, 1, 1, 1, 1, 20).choose(1, 0, 1, 0, 2, 1), 20);
        due("one", x.sheet(20), 1);
    }

    private static void noSheet() {
        sentence("Promise 10", "NONE: nothing is CHOSEN, or another n.");
        SumsInWords x = people();
        for (int n = 1; n <= 20; n++) {
            int told = n;
            refused(x, "nothing chosen", () -> x.sheet(told));
        }
        SumsInWords y = full();
        for (int n : outside(1, 20)) {
            refused(y, "sheet " + n, () -> y.sheet(n));
        }
        due("the old one", y.count(3), 3);
    }

    private static void noPlaceOnSheet() {
        sentence("Promise 11", "The SET at place j of the SHEET, from 0 on. NONE if there is none such.");
        SumsInWords x = full();
        for (int j : outside(0, 2)) {
            refused(x, "on " + j, () -> x.on(j));
        }
        due("the first", x.on(0), 0);
        due("the last", x.on(2) > x.on(1), true);
        due("a longer one", x.sheet(20) > 3, true);
        due("place 3", x.on(3) > x.on(2), true);
        due("a shorter one", x.sheet(1), 1);
        for (int j : outside(0, 0)) {
            due("on " + j, x.on(j), -1);
        }
        SumsInWords y = people();
        for (int j = -1; j <= 20; j++) {
            due("no sheet", y.on(j), -1);
        }
        y.choose(0, 0, 1, 0, -1, -1);
        due("full", y.sheet(20), 20);
        due("the last of 20", y.on(19), 19);
        due("behind it", y.on(20), -1);
    }

    private static void placeCountsForNothing() {
        sentence("Promise 12", "the IDLE SENTENCE at a place (counts for nothing without)");
        SumsInWords x = narrow(people(), 6, 6, 2, 2, 4, 4, 1, 1);
        for (int shape = 0; shape < 8; shape++) {
            due("choose", x.choose(shape, 0, 1, 0, -1, -1), 1);
            int bytes = x.write(0, false, 0);
            String tale = writtenText(x);
            for (int place : outside(0, 3)) {
                due("place " + place, x.write(0, false, place), bytes);
                due("the same tale", writtenText(x), tale);
                due("turned", x.write(0, true, place), shape >= 3 && shape <= 5 ? bytes : -1);
            }
        }
    }

    private static void notWritten() {
        sentence("Promise 12", "NONE: there is no such SET, it can't be TURNED, or there is no such place.");
        SumsInWords x = full();
        int sets = x.sets();
        for (int k : outside(0, sets - 1)) {
            refused(x, "set " + k, () -> x.write(k, false, 0));
            refused(x, "set " + k, () -> x.write(k, true, 2));
        }
        for (int place : outside(0, 2)) {
            refused(x, "place " + place, () -> x.write(0, false, place));
            refused(x, "place " + place, () -> x.write(0, true, place));
        }
        due("the last set, the last place", x.write(sets - 1, true, 2) > 0, true);
        for (int shape : new int[] {0, 1, 2, 6, 7}) {
            due("choose", x.choose(shape, 0, 1, 0, -1, -1) > 0, true);
            refused(x, "turned " + shape, () -> x.write(0, true, 0));
        }
        SumsInWords none = people();
        refused(none, "nothing chosen", () -> none.write(0, false, 0));
        due("none fits", narrow(none, 1, 1, 2, 2).choose(1, 0, 1, 0, -1, -1), 0);
        refused(none, "no set 0", () -> none.write(0, false, 0));
        due("nothing written", none.take(), -1);
    }

    private static void noByteWritten() {
        sentence("Promise 13", "Byte j of what was WRITTEN last. NONE if there is none such.");
        SumsInWords x = narrow(people(), 10, 10, 10, 10);
        for (int j = -1; j < 400; j++) {
            due("nothing written", x.written(j), -1);
        }
        due("choose", x.choose(0, 0, 1, 0, -1, -1), 1);
        String tale = "ann has 10 pears. ann gets 10 pears. how many pears has ann?";
        dueTale(x, 0, false, 0, tale);
        for (int j : outside(0, tale.length() - 1)) {
            refused(x, "written " + j, () -> x.written(j));
        }
        dueTale(narrow(x, 1, 1, 1, 1), 0, false, 0, "ann has 1 pears. ann gets 1 pears. how many pears has ann?");
        due("a byte of the longer one before", x.written(58), -1);
        due("a byte of the longer one before", x.written(59), -1);
        due("count", x.count(2), 58);
    }

    private static void taken() {
        sentence("Promise 14", "What was WRITTEN last becomes THE TAPE: how many bytes.");
        SumsInWords x = narrow(people(), 3, 3, 4, 4);
        due("choose", x.choose(0, 0, 1, 0, -1, -1), 1);
        due("write", x.write(0, false, 0), 58);
        for (int n = 1; n <= 20; n++) {
            x.feed(-1, -1, -1, -1, -1);
        }
        due("take, a full tape", x.take(), 58);
        due("that alone", x.count(4), 58);
        due("end", x.end(59), -1);
        due("read", x.read(), 0);
        due("take, an empty tape", x.take(), 58);
        due("feed behind it", x.feed(0x20202020, 0x20202020, 0x20202020, 0x20202020, 0x20202020), 78);
        due("take once more", x.take(), 58);
        due("still written", x.count(2), 58);
        due("a write refused", x.write(1, false, 0), -1);
        due("the last that was", x.take(), 58);
        due("read", x.read(), 0);
    }

    private static void nothingTaken() {
        sentence("Promise 14", "NONE: nothing was.");
        SumsInWords x = narrow(people(), 3, 3, 4, 4);
        refused(x, "an empty tape", () -> x.take());
        feedText(x, TALE);
        refused(x, "a tape", () -> x.take());
        due("chosen alone", x.choose(0, 0, 1, 0, -1, -1), 1);
        refused(x, "chosen alone", () -> x.take());
        due("a write refused", x.write(0, true, 0), -1);
        refused(x, "a write refused", () -> x.take());
        due("the tape is as it was", x.read(), 0);
    }

    private static void highestByteFirst() {
        sentence("Promise 15", "Twenty bytes come behind the tape, of each number the highest first: how many it has.");
        SumsInWords x = people();
        due("feed", x.feed(0x616e6e20, 0x68617320, 0x33207065, 0x6172732e, 0x20616e6e), 20);
        due("feed", x.feed(0x20676574, 0x73203420, 0x70656172, 0x732e2068, 0x6f77206d), 40);
        due("feed", x.feed(0x616e7920, 0x70656172, 0x73206861, 0x7320616e, 0x6e3f2020), 60);
        due("read", x.read(), 0);
        dueGot(x, 3, 4, -1, -1, 0, -1, 0, -1, -1, -1, 7);
        // Each of the twenty places alone: blanks, and one byte that is none.
        for (int at = 0; at < 20; at++) {
            int[] five = new int[5];
            for (int j = 0; j < 20; j++) {
                five[j / 4] = five[j / 4] << 8 | (j == at ? 0xff : 0x20);
            }
            due("feed", x.feed(five[0], five[1], five[2], five[3], five[4]), 20);
            due("read", x.read(), -1);
            due("place", x.fault(1), at);
        }
    }

    private static void tapeFull() {
        sentence("Promise 15", "NONE, and nothing comes, if there would be more than 400.");
        for (int length = 377; length <= 400; length++) {
            SumsInWords x = people();
            for (int n = 0; n < 20; n++) {
                x.feed(0x20202020, 0x20202020, 0x20202020, 0x20202020, 0x20202020);
            }
            due("end", x.end(length), length);
            boolean room = length <= 380;
            due("feed behind " + length, x.feed(-1, -1, -1, -1, -1), room ? length + 20 : -1);
            due("bytes", x.count(4), room ? length + 20 : length);
            due("read", x.read(), -1);
            due("what came or didn't", x.fault(1), length);
        }
        SumsInWords y = full();
        for (int n = 0; n < 17; n++) {
            due("feed", y.feed(0x20202020, 0x20202020, 0x20202020, 0x20202020, 0x20202020), 78 + 20 * n);
        }
        refused(y, "full", () -> y.feed(-1, -1, -1, -1, -1));
        due("read", y.read(), 0);
    }

    private static void tapeCut() {
        sentence("Promise 16", "The tape has its first n bytes alone: n.");
        for (int n = 0; n <= TALE.length(); n++) {
            SumsInWords x = people();
            feedText(x, TALE);
            due("end " + n, x.end(n), n);
            due("bytes", x.count(4), n);
            due("once more", x.end(n), n);
            due("read", x.read(), n == 58 ? 0 : -1);
        }
        SumsInWords y = people();
        feedText(y, TALE + "how");
        due("end", y.end(58), 58);
        due("behind it", y.feed(0x20202020, 0x20202020, 0x20202020, 0x20202020, 0x20202020), 78);
        due("what was cut off doesn't come back", y.read(), 0);
        due("0 of an empty tape", y.end(0), 0);
    }

    private static void tapeNotCut() {
        sentence("Promise 16", "NONE if it has not so many, or n is below 0.");
        SumsInWords x = full();
        for (int n : outside(0, 58)) {
            refused(x, "end " + n, () -> x.end(n));
        }
        due("read", x.read(), 0);
        for (int n : outside(0, 0)) {
            refused(x, "end " + n + " of none", () -> x.end(n));
        }
        SumsInWords y = people();
        for (int n = 0; n < 20; n++) {
            y.feed(0, 0, 0, 0, 0);
        }
        refused(y, "end 401", () -> y.end(401));
        due("end 400", y.end(400), 400);
        due("end 399", y.end(399), 399);
        refused(y, "end 400", () -> y.end(400));
    }

    private static void emptyOnceRead() {
        sentence("Promise 17", "THE TAPE is READ (it is empty then)");
        SumsInWords x = people();
        feedText(x, TALE);
        due("read", x.read(), 0);
        due("empty behind a tale", x.count(4), 0);
        due("nothing to cut", x.end(1), -1);
        due("read once more", x.read(), -1);
        due("a fault", x.fault(0), 1);
        due("its place", x.fault(1), 0);
        feedText(x, "ann has dogs.");
        due("read", x.read(), -1);
        due("empty behind fault 1", x.count(4), 0);
        feedText(x, "how many pears has ann?");
        due("read", x.read(), -1);
        due("empty behind fault 2", x.count(4), 0);
        feedText(x, TALE);
        due("nothing is left of it", x.read(), 0);
    }

    private static void shapesRead() {
        sentence("Promise 17", "its SHAPE, 8 more if it is TURNED, 16 more if it is IDLE");
        SumsInWords x = narrow(people(), 6, 6, 2, 2, 4, 4, 5, 5);
        for (int shape = 0; shape < 8; shape++) {
            for (int kinds = 0; kinds < 4; kinds++) {
                boolean turned = (kinds & 1) == 1;
                boolean idle = (kinds & 2) == 2;
                due("choose", x.choose(shape, 1, 2, 1, idle ? 0 : -1, idle ? 2 : -1), 1);
                if (turned && (shape < 3 || shape > 5)) {
                    continue;
                }
                for (int place = 0; place <= (idle ? shape == 7 ? 3 : 2 : 0); place++) {
                    due("write", x.write(0, turned, place), x.count(2));
                    due("take", x.take(), x.count(2));
                    due("read", x.read(), shape + (turned ? 8 : 0) + (idle ? 16 : 0));
                    dueGot(x, 6, 2, shape == 7 ? 4 : -1, idle ? 5 : -1, 1, shape == 4 || shape == 5 ? 2 : -1, 1,
                        idle ? 0 : -1, idle ? 2 : -1, idle ? place : -1, x.set(0, 4));
                }
            }
        }
    }

    private static void faultsRead() {
        sentence("Promise 17", "NONE: a FAULT.");
        SumsInWords x = people();
        dueFault(x, "", 1, 0);
        dueFault(x, "ann has 3 pears. ann gets 4 pears.", 1, 34);
        dueFault(x, "ann has 3 pears. how many pears has ann?", 2, 17);
        dueRead(x, TALE, 0);
    }

    private static void noFault() {
        sentence("Promise 18", "Of the latest read(), what 0: the FAULT, 0 without, 1: its place, NONE without. NONE for another"
            + " what.");
        SumsInWords x = people();
        due("not read yet", x.fault(0), 0);
        due("not read yet", x.fault(1), -1);
        dueFault(x, "how many pears has ann?", 2, 0);
        for (int what : outside(0, 1)) {
            refused(x, "what " + what, () -> x.fault(what));
        }
        feedText(x, TALE);
        due("a tape that isn't read", x.fault(0), 2);
        due("read", x.read(), 0);
        due("no fault", x.fault(0), 0);
        due("no place", x.fault(1), -1);
        for (int what : outside(0, 1)) {
            due("what " + what, x.fault(what), -1);
        }
        dueFault(x, "ann has 3 dogs.", 1, 10);
        dueFault(x, "now", 1, 3);
    }

    private static void taleAheadOfFault() {
        sentence("Promise 19", "Of the tale that was READ last (also ahead of a FAULT)");
        SumsInWords x = people();
        dueRead(x, OTHER, 28);
        int[] other = {9, 3, -1, 6, 0, 1, 0, 2, 1, 0, 12};
        dueGot(x, other);
        dueFault(x, "ann has 3 pears. ann gets 4 dogs.", 1, 28);
        dueGot(x, other);
        dueFault(x, "ann has 3 cups. ann gets 4 cups. how many pears has ann?", 2, 33);
        dueGot(x, other);
        dueFault(x, "", 1, 0);
        dueGot(x, other);
        dueRead(x, TALE, 0);
        dueGot(x, 3, 4, -1, -1, 0, -1, 0, -1, -1, -1, 7);
    }

    private static void noAnswer() {
        sentence("Promise 19", "(-2 if it is no whole number, or below 1)");
        SumsInWords x = people();
        dueAnswer(x, "ann has 9 pears. ann loses 8 pears. how many pears has ann?", 1);
        dueAnswer(x, "ann has 9 pears. ann loses 9 pears. how many pears has ann?", -2);
        dueAnswer(x, "ann has 9 pears. ann loses 10 pears. how many pears has ann?", -2);
        dueAnswer(x, "ann has 9 pears. ann loses 11 pears. how many pears has ann?", -2);
        dueAnswer(x, "ann has 1 pears. ann loses 9999 pears. how many pears has ann?", -2);
        dueAnswer(x, "ann gets 8 pears. now ann has 9 pears. how many pears had ann?", 1);
        dueAnswer(x, "ann gets 9 pears. now ann has 9 pears. how many pears had ann?", -2);
        dueAnswer(x, "ann gets 9999 pears. now ann has 1 pears. how many pears had ann?", -2);
        dueAnswer(x, "ann has 9 pears. ann puts them into 9 boxes. how many pears are in a box?", 1);
        dueAnswer(x, "ann has 9 pears. ann puts them into 1 boxes. how many pears are in a box?", 9);
        dueAnswer(x, "ann has 9 pears. ann puts them into 2 boxes. how many pears are in a box?", -2);
        dueAnswer(x, "ann has 9 pears. ann puts them into 18 boxes. how many pears are in a box?", -2);
        dueAnswer(x, "ann has 1 pears. ann gets 9 pears. ann puts them into 5 boxes. how many pears are in a box?", 2);
        dueAnswer(x, "ann has 1 pears. ann gets 9 pears. ann puts them into 10 boxes. how many pears are in a box?", 1);
        dueAnswer(x, "ann has 1 pears. ann gets 9 pears. ann puts them into 3 boxes. how many pears are in a box?", -2);
        dueAnswer(x, "ann has 1 pears. ann gets 9 pears. ann puts them into 20 boxes. how many pears are in a box?", -2);
        // The greatest answers: none of them wraps around.
        dueAnswer(x, "ann has 9999 pears. ann gets 9999 pears. how many pears has ann?", 19998);
        dueAnswer(x, "ann has 9999 boxes. in a box are 9999 pears. how many pears has ann?", 99980001);
        dueAnswer(x, "ann has 9999 pears. ben has 9999 pears more than ann. how many pears has ben?", 19998);
        dueAnswer(x, "ann has 9999 pears. ben has 9999 pears more than ann. how many pears have both?", 29997);
    }

    private static void dueAnswer(SumsInWords x, String tale, int answer) {
        feedText(x, tale);
        due("read " + tale, x.read() >= 0, true);
        due("answer of " + tale, x.got(10), answer);
    }

    private static void noneGot() {
        sentence("Promise 19", "NONE where there is none, none was READ, or for another what.");
        SumsInWords x = people();
        for (int what = 0; what <= 10; what++) {
            due("none was read", x.got(what), -1);
        }
        dueFault(x, "ann has 3 cups. ann gets 4 cups. how many pears has ann?", 2, 33);
        for (int what = 0; what <= 10; what++) {
            due("a fault alone", x.got(what), -1);
        }
        dueRead(x, "ann has 3 pears. cyd has 9 cups. ben has 2 pears more than ann. how many pears have both?", 21);
        dueGot(x, 3, 2, -1, 9, 0, 1, 0, 2, 1, 1, 8);
        for (int what : outside(0, 10)) {
            refused(x, "what " + what, () -> x.got(what));
        }
        dueRead(x, "ann has 3 pears. ann gets 3 pears. ann puts them into 2 boxes. how many pears are in a box?", 7);
        dueGot(x, 3, 3, 2, -1, 0, -1, 0, -1, -1, -1, 3);
        dueRead(x, "in a box are 2 cups. ben has 5 boxes. how many cups has ben?", 11);
        dueGot(x, 5, 2, -1, -1, 1, -1, 1, -1, -1, -1, 10);
    }

    private static void noCount() {
        sentence("Promise 20", "0 NAMES, 1 THINGS, 2 bytes WRITTEN last, 3 SETS on the SHEET, 4 bytes of THE TAPE. NONE for"
            + " another what.");
        SumsInWords x = full();
        for (int what : outside(0, 4)) {
            refused(x, "what " + what, () -> x.count(what));
        }
        due("a name", x.name(word("dot")), 3);
        int[] counts = {4, 3, writtenText(x).length(), 3, 58};
        for (int what = 0; what <= 4; what++) {
            due("count " + what, x.count(what), counts[what]);
        }
        due("none on the sheet", narrow(x, 1, 1, 1, 1).ways(0), true);
        due("choose", x.choose(1, 0, 0, 0, -1, -1), 0);
        due("sheet", x.sheet(1), 0);
        due("empty", x.count(3), 0);
    }

    private static void noImage() {
        sentence("Promise 21", "Image k (0 .. 2) is all that is told, as it is now: true; false for another k.");
        SumsInWords x = full();
        for (int k : outside(0, 2)) {
            refused(x, "image " + k, () -> x.image(k), false);
        }
        for (int k = 0; k <= 2; k++) {
            due("no image came of it", x.again(k), false);
        }
        for (int k = 0; k <= 2; k++) {
            String before = seen(x);
            due("image " + k, x.image(k), true);
            due("nothing changes", seen(x), before);
            due("image " + k + " once more", x.image(k), true);
            for (int none = k + 1; none <= 2; none++) {
                due("no image " + none, x.again(none), false);
            }
        }
    }

    private static void imagesStay() {
        sentence("Promise 22", "All that is as image k has it (other images stay): true");
        SumsInWords x = new SumsInWords();
        due("image 0, of nothing", x.image(0), true);
        String nothing = seen(x);
        fill(x);
        String all = seen(x);
        due("image 1", x.image(1), true);
        change(x);
        String other = seen(x);
        due("image 2", x.image(2), true);
        String[] images = {nothing, all, other};
        for (int round = 0; round < 12; round++) {
            int k = round * 5 % 7 % 3;
            due("again " + k, x.again(k), true);
            due("as image " + k + " has it", seen(x), images[k]);
            dueToldAgain(x, k);
            changeAll(x, round);
        }
        due("image 1 is told anew", x.image(1), true);
        String late = seen(x);
        due("again 0", x.again(0), true);
        due("as image 0 has it", seen(x), nothing);
        due("again 1", x.again(1), true);
        due("as it is now", seen(x), late);
        due("again 2", x.again(2), true);
        due("as image 2 has it", seen(x), other);
    }

    /** The words, the choice and the tape, which can be seen only by what they lead to. */
    private static void dueToldAgain(SumsInWords x, int k) {
        due("the tape", x.read(), k == 1 ? 0 : -1);
        if (k == 0) {
            due("nothing is chosen", x.write(0, false, 0), -1);
        } else if (k == 1) {
            dueTale(x, 0, true, 2, "ben has 1 pears more than ann. ann has 2 pears. cyd has 4 cups. how many pears have both?");
            // 90 pears and 50 cups at most.
            due("at the most", narrow(x, 44, 44, 2, 2, 1, 1, 50, 50).sets(), 1);
            due("beyond that of I", narrow(x, 44, 44, 2, 2, 1, 1, 51, 51).sets(), 0);
            due("beyond that of t", narrow(x, 45, 45, 2, 2, 1, 1, 50, 50).sets(), 0);
        } else {
            // 3 + 2 by 1 is a sum that tempts, and by 2 and 3 it isn't whole.
            dueTale(x, 0, false, 0, "ben has 6 hats. dot has 3 cups. dot gets 3 cups. dot puts them into 2 boxes."
                + " how many cups are in a box?");
            // 50 cups and 7 hats at most.
            due("at the most", narrow(x, 48, 48, 2, 2, 2, 2, 7, 7).sets(), 1);
            due("beyond that of I", narrow(x, 48, 48, 2, 2, 2, 2, 8, 8).sets(), 0);
            due("beyond that of t", narrow(x, 50, 50, 2, 2, 2, 2, 7, 7).sets(), 0);
        }
    }

    /** Other words at the places of the old ones as far as there is room, and another choice. */
    private static void changeAll(SumsInWords x, int round) {
        for (int j = 0; j < 6; j++) {
            x.name(word("n" + (char) ('b' + j)));
            x.thing(word("t" + (char) ('b' + j)), 100 + round);
        }
        x.ways(0);
        narrow(x, 30, 30, 3, 3, 3, 3, 30, 30);
        due("another choice", x.choose(round % 8, 5, 4, 5, 3, 4), 1);
        due("another sheet", x.sheet(1), 1);
        due("another tale", x.write(0, false, 0) > 0, true);
        due("take", x.take(), x.count(2));
        due("read", x.read(), round % 8 + 16);
        feedText(x, "ann");
    }

    private static void fill(SumsInWords x) {
        x.name(word("ann"));
        x.name(word("ben"));
        x.name(word("cyd"));
        x.thing(word("pears"), 90);
        x.thing(word("cups"), 50);
        narrow(x, 2, 9, 1, 3, 1, 2, 4, 5);
        x.ways(4);
        x.choose(5, 0, 1, 0, 2, 1);
        x.sheet(3);
        x.write(1, true, 1);
        dueRead(x, OTHER, 28);
        dueFault(x, "how many dogs", 1, 9);
        feedText(x, TALE);
    }

    private static void change(SumsInWords x) {
        x.name(word("dot"));
        x.thing(word("hats"), 7);
        narrow(x, 3, 6, 2, 4, 1, 3, 6, 7);
        x.ways(3);
        x.choose(7, 3, 1, 1, 1, 2);
        x.sheet(5);
        x.write(2, false, 3);
        due("the tape that was told", x.read(), 0);
        dueFault(x, "ann has 3 pears. how many pears has ann?", 2, 17);
        feedText(x, "how");
    }

    private static void noneAgain() {
        sentence("Promise 22", "false if there is none such.");
        SumsInWords x = full();
        for (int k = 0; k <= 2; k++) {
            int told = k;
            refused(x, "no image " + k, () -> x.again(told), false);
        }
        for (int k : outside(0, 2)) {
            refused(x, "again " + k, () -> x.again(k), false);
        }
        due("image 1", x.image(1), true);
        refused(x, "no image 0", () -> x.again(0), false);
        refused(x, "no image 2", () -> x.again(2), false);
        for (int k : outside(0, 2)) {
            refused(x, "again " + k, () -> x.again(k), false);
        }
        due("an image stays with its own object", new SumsInWords().again(1), false);
        due("again 1", x.again(1), true);
    }

    private static void manyCalls() {
        sentence("What it is", "An object is used for at most 512 calls after it has been made");
        SumsInWords x = people();
        due("choose", x.choose(7, 0, 1, 0, 1, 1), 28620);
        for (int call = 0; call < 170; call++) {
            due("the last", x.set(28619, 3), 20);
            due("the first", x.set(0, 3), 1);
            due("image", x.image(call % 3), true);
        }
    }

    private static final int[] FAR = {Integer.MIN_VALUE, -65536, -257, -256, -3, -2, -1, 0, 1, 2, 3, 5, 7, 8, 20, 21, 63, 64,
        255, 256, 400, 401, 65536, Integer.MAX_VALUE - 20, Integer.MAX_VALUE};

    /** No call throws or runs on, for any arguments, in an empty object, in a full one, or in one that changes. */
    private static void anyArguments() {
        under("no call throws");
        SumsInWords[] objects = {new SumsInWords(), people(), full()};
        for (SumsInWords x : objects) {
            for (int a : FAR) {
                for (int b : FAR) {
                    anyCall(x, a, b);
                }
            }
        }
    }

    private static void anyCall(SumsInWords x, int a, int b) {
        try {
            x.name((long) a << 32 | b & 0xffffffffL);
            x.thing((long) b << 8, a);
            x.span(a, b, a);
            x.span(b & 3, a, a);
            x.ways(a);
            x.choose(a, b, a, b, a, b);
            x.choose(a & 7, b & 1, 2, a & 1, b, a);
            x.set(a, b);
            x.tells(a, b);
            x.sheet(a);
            x.on(a);
            x.write(a, b > 0, b);
            x.written(a);
            x.take();
            x.feed(a, b, a, b, a);
            x.end(a);
            x.fault(a);
            x.got(a);
            x.count(a);
            x.image(a);
            x.again(b);
            if (b < 0) {
                x.read();
            }
        } catch (RuntimeException thrown) {
            due("with " + a + ", " + b, thrown.toString(), "no throw");
        }
    }
}
