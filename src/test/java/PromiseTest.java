/** For each promise of the document: ordinary inputs, the edges that it names, and wrong inputs. */
public final class PromiseTest extends Kit {
    public static void main(String[] args) {
        newObject();
        names();
        things();
        spans();
        ways();
        choosing();
        countsByShape();
        setsNow();
        setFacts();
        wayNumbers();
        temptingWays();
        tellings();
        sheets();
        placesOnSheet();
        writing();
        writtenBytes();
        taking();
        feeding();
        ending();
        readingShapes();
        readingAllowedForms();
        readingFaults();
        readingNoTale();
        faultAnswers();
        gotFacts();
        counts();
        images();
        finish("all promises hold");
    }

    private static void newObject() {
        under("promise 1");
        SumsInWords x = new SumsInWords();
        for (int what = 0; what <= 4; what++) {
            due("count " + what, x.count(what), 0);
        }
        due("sets", x.sets(), -1);
        due("set", x.set(0, 0), -1);
        due("tells", x.tells(0, 0), -1);
        due("sheet", x.sheet(1), -1);
        due("on", x.on(0), -1);
        due("write", x.write(0, false, 0), -1);
        due("written", x.written(0), -1);
        due("take", x.take(), -1);
        due("fault", x.fault(0), 0);
        due("fault's place", x.fault(1), -1);
        for (int what = -1; what <= 11; what++) {
            due("got " + what, x.got(what), -1);
        }
        for (int k = -1; k <= 3; k++) {
            due("again " + k, x.again(k), false);
        }
        due("NONE", SumsInWords.NONE, -1);
    }

    private static void names() {
        under("promise 2");
        SumsInWords x = new SumsInWords();
        due("thing", x.thing(word("pears"), 1), 0);
        String kept = "has boxes gets loses puts them into in a box are more than now how many have both had";
        for (String word : kept.split(" ")) {
            due(word, x.name(word(word)), -1);
        }
        due("a thing's", x.name(word("pears")), -1);
        due("0", x.name(0), -1);
        due("below 0", x.name(-1), -1);
        due("below 0, letters", x.name(word("zzzzzzzz") | 1L << 63), -1);
        due("capital", x.name(word("Ann")), -1);
        due("digit", x.name(word("ann2")), -1);
        due("a gap", x.name(word("an") << 16 | word("n")), -1);
        due("a zero behind", x.name(word("ann") << 8), -1);
        due("below a", x.name(word("a`")), -1);
        due("above z", x.name(word("z{")), -1);
        due("blank", x.name(word("ann ben")), -1);
        due("b", x.name(word("b")), 0);
        due("eight", x.name(word("abcdefgh")), 1);
        due("zzzzzzzz", x.name(word("zzzzzzzz")), 2);
        due("aaaaaaaa", x.name(word("aaaaaaaa")), 3);
        due("aa", x.name(word("aa")), 4);
        due("again", x.name(word("aa")), -1);
        due("hasn", x.name(word("hasn")), 5);
        due("a seventh", x.name(word("ann")), -1);
        due("names", x.count(0), 6);
    }

    private static void things() {
        under("promise 3");
        SumsInWords x = new SumsInWords();
        due("name", x.name(word("ann")), 0);
        due("name's", x.thing(word("ann"), 5), -1);
        due("kept", x.thing(word("boxes"), 5), -1);
        due("kept", x.thing(word("had"), 5), -1);
        due("no word", x.thing(0, 5), -1);
        due("no word", x.thing(word("Pears"), 5), -1);
        due("most 0", x.thing(word("pears"), 0), -1);
        due("most below", x.thing(word("pears"), Integer.MIN_VALUE), -1);
        due("most 10000", x.thing(word("pears"), 10000), -1);
        due("most 1", x.thing(word("pears"), 1), 0);
        due("once more", x.thing(word("pears"), 2), -1);
        due("most 9999", x.thing(word("cups"), 9999), 1);
        due("third", x.thing(word("c"), 9), 2);
        due("fourth", x.thing(word("d"), 9), 3);
        due("fifth", x.thing(word("e"), 9), 4);
        due("sixth", x.thing(word("ffffffff"), 9), 5);
        due("seventh", x.thing(word("g"), 9), -1);
        due("things", x.count(1), 6);
        due("a name of a thing", x.name(word("cups")), -1);
        due("a name more", x.name(word("g")), 1);
        due("the most counts", x.choose(0, 0, 0, 0, -1, -1), 0);
        due("the other most", x.choose(0, 0, 0, 1, -1, -1), 400);
    }

    private static void spans() {
        under("promise 4");
        SumsInWords x = people();
        due("at first", x.choose(0, 0, 0, 0, -1, -1), 400);
        due("60", x.span(0, 60, 60), true);
        due("1 .. 20", x.span(1, 1, 20), true);
        due("41 .. 60", x.span(2, 41, 60), true);
        due("I", x.span(3, 1, 1), true);
        due("61", x.span(0, 61, 61), false);
        due("0", x.span(0, 0, 5), false);
        due("1 .. 21", x.span(0, 1, 21), false);
        due("41 .. 61", x.span(0, 42, 61), false);
        due("turned", x.span(0, 5, 4), false);
        due("what -1", x.span(-1, 1, 5), false);
        due("what 4", x.span(4, 1, 5), false);
        due("far", x.span(0, Integer.MIN_VALUE, Integer.MAX_VALUE), false);
        due("far", x.span(0, Integer.MAX_VALUE, Integer.MIN_VALUE), false);
        due("sets", x.sets(), 20);
        dueSet(x, 0, 60, 1, 0, 0, 61);
        dueSet(x, 19, 60, 20, 0, 0, 80);
    }

    private static void ways() {
        under("promise 5");
        SumsInWords x = narrow(people(), 1, 3, 1, 3);
        due("choose", x.choose(0, 0, 0, 0, -1, -1), 9);
        due("6", x.ways(6), true);
        due("sets", x.sets(), 8);
        due("64", x.ways(64), false);
        due("-1", x.ways(-1), false);
        due("far", x.ways(Integer.MIN_VALUE), false);
        due("as it was", x.sets(), 8);
        due("63", x.ways(63), true);
        due("0", x.ways(0), true);
        due("none", x.sets(), 9);
    }

    private static void choosing() {
        under("promise 6");
        SumsInWords x = narrow(people(), 1, 3, 1, 3);
        due("no shape", x.choose(8, 0, 1, 0, -1, -1), -1);
        due("no shape", x.choose(-1, 0, 1, 0, -1, -1), -1);
        due("no n", x.choose(0, 3, 1, 0, -1, -1), -1);
        due("no n", x.choose(0, -1, 1, 0, -1, -1), -1);
        due("no t", x.choose(0, 0, 1, 3, -1, -1), -1);
        due("no t", x.choose(0, 0, 1, -1, -1, -1), -1);
        due("no m", x.choose(4, 0, 3, 0, -1, -1), -1);
        due("no m", x.choose(5, 0, -1, 0, -1, -1), -1);
        due("m as n", x.choose(4, 1, 1, 0, -1, -1), -1);
        due("m as n", x.choose(5, 0, 0, 0, -1, -1), -1);
        due("an idle name alone", x.choose(0, 0, 1, 0, 1, -1), -1);
        due("an idle thing alone", x.choose(0, 0, 1, 0, -1, 1), -1);
        due("no idle name", x.choose(0, 0, 1, 0, 3, 1), -1);
        due("no idle name", x.choose(0, 0, 1, 0, -2, 1), -1);
        due("no idle thing", x.choose(0, 0, 1, 0, 1, 3), -1);
        due("no idle thing", x.choose(0, 0, 1, 0, 1, -2), -1);
        due("neither", x.choose(0, 0, 1, 0, -2, -2), -1);
        due("idle name n", x.choose(0, 0, 1, 0, 0, 1), -1);
        due("idle name m", x.choose(5, 0, 1, 0, 1, 1), -1);
        due("idle thing t", x.choose(0, 0, 1, 0, 1, 0), -1);
        due("nothing chosen", x.sets(), -1);
        for (int shape = 0; shape < 8; shape++) {
            if (shape != 4 && shape != 5) {
                due("m counts for nothing, " + shape, x.choose(shape, 0, 99, 0, -1, -1) > 0, true);
                due("m as idle name, " + shape, x.choose(shape, 0, 1, 0, 1, 1) > 0, true);
            }
        }
        due("with m", x.choose(4, 0, 1, 0, -1, -1), 9);
        due("idle, figs 5", x.choose(4, 0, 1, 0, 2, 2), 45);
        due("a wrong one", x.choose(4, 0, 0, 0, 2, 2), -1);
        due("the old choice stays", x.sets(), 45);
    }

    private static void countsByShape() {
        under("promise 6");
        // With X and Y from 1 to 6 and Z from 1 to 3, things at most 5.
        SumsInWords x = narrow(people(), 1, 6, 1, 6, 1, 3);
        due("0: sums to 5", x.choose(0, 0, 1, 2, -1, -1), 10);
        due("1: X to 5", x.choose(1, 0, 1, 2, -1, -1), 10);
        due("2: X to 5, any Y", x.choose(2, 0, 1, 2, -1, -1), 10);
        due("3: products to 5", x.choose(3, 0, 1, 2, -1, -1), 10);
        due("4: sums to 5", x.choose(4, 0, 1, 2, -1, -1), 10);
        due("5: 2 X + Y to 5", x.choose(5, 0, 1, 2, -1, -1), 4);
        due("6: X to 5", x.choose(6, 0, 1, 2, -1, -1), 10);
        due("7: sums to 5, shared", x.choose(7, 0, 1, 2, -1, -1), 16);
        due("2, boxes beyond the most", narrow(x, 5, 5, 6, 6).choose(2, 0, 1, 2, -1, -1), 0);
        SumsInWords y = narrow(people(), 12, 12, 6, 6);
        due("thing", y.thing(word("hats"), 12), 3);
        due("2 within", y.choose(2, 0, 1, 3, -1, -1), 1);
        due("2, X too great", y.choose(2, 0, 1, 2, -1, -1), 0);
        due("3, the answer too great", y.choose(3, 0, 1, 3, -1, -1), 0);
        due("6, X too great", narrow(y, 13, 13, 12, 12).choose(6, 0, 1, 3, -1, -1), 0);
        due("3, X beyond the most, answer 5 at most", narrow(y, 6, 6, 1, 1).choose(3, 0, 1, 2, -1, -1), 0);
        due("7, the sum too great", narrow(y, 3, 3, 3, 3, 3, 3).choose(7, 0, 1, 2, -1, -1), 0);
        due("7, the sum at the most", narrow(y, 6, 6, 6, 6, 20, 20).choose(7, 0, 1, 3, -1, -1), 0);
        due("7, shared", narrow(y, 6, 6, 6, 6, 12, 12).choose(7, 0, 1, 3, -1, -1), 1);
        due("7, Z may be beyond the most", narrow(y, 2, 2, 3, 3, 5, 5).choose(7, 0, 1, 2, -1, -1), 1);
    }

    private static void setsNow() {
        under("promise 7");
        SumsInWords x = people();
        due("nothing chosen", x.sets(), -1);
        due("choose", x.choose(1, 0, 1, 0, -1, -1), 190);
        due("sets", x.sets(), 190);
        narrow(x, 1, 1);
        due("no answer is 1 at least", x.sets(), 0);
        narrow(x, 2, 2);
        due("one", x.sets(), 1);
        due("all ways", x.ways(4), true);
        // 2 - 1 is 1, 2 * 1 is 2.
        due("one still", x.sets(), 1);
        due("also the greatest", x.ways(20), true);
        due("2 twice", x.sets(), 0);
        due("the widest", widest().sets(), 28620);
    }

    private static SumsInWords widest() {
        SumsInWords x = people();
        x.choose(7, 0, 1, 0, 1, 1);
        return x;
    }

    private static void setFacts() {
        under("promise 8");
        SumsInWords x = narrow(people(), 4, 5, 2, 3, 1, 3, 7, 8);
        due("choose", x.choose(7, 0, 1, 0, 1, 1), 14);
        // (4 + 2) by 1, 2, 3; (4 + 3) by 1; (5 + 2) by 1; (5 + 3) by 1, 2.
        dueSet(x, 0, 4, 2, 1, 7, 6);
        dueSet(x, 1, 4, 2, 1, 8, 6);
        dueSet(x, 2, 4, 2, 2, 7, 3);
        dueSet(x, 5, 4, 2, 3, 8, 2);
        dueSet(x, 6, 4, 3, 1, 7, 7);
        dueSet(x, 13, 5, 3, 2, 8, 4, 8, 2, 15, 18, 8, 12);
        due("back", x.set(3, 3), 8);
        due("set 14", x.set(14, 0), -1);
        due("set -1", x.set(-1, 0), -1);
        due("far", x.set(Integer.MAX_VALUE, 0), -1);
        due("far", x.set(Integer.MIN_VALUE, 0), -1);
        due("what 11", x.set(0, 11), -1);
        due("what -1", x.set(0, -1), -1);
        due("what far", x.set(0, Integer.MIN_VALUE), -1);
        due("what far", x.set(0, Integer.MAX_VALUE), -1);
        due("nothing chosen", new SumsInWords().set(0, 0), -1);
        due("the last of the widest", widest().set(28619, 3), 20);
    }

    private static void wayNumbers() {
        under("promise 8");
        SumsInWords x = narrow(people(), 9, 9, 3, 3, 4, 4, 11, 11);
        int[][] facts = {
            {12, 12, 6, 27, 12, 9, 12}, {6, 12, 6, 27, 12, 9, 6}, {3, 12, 6, 27, 12, 9, 3}, {27, 12, 6, 27, 12, 9, 27},
            {12, 12, 6, 27, 12, 9, 12}, {21, 12, 6, 27, 12, 9, 21}, {6, 12, 6, 27, 12, 9, 6}, {3, 12, 6, 27, 16, 9, 3}};
        for (int shape = 0; shape < 8; shape++) {
            due("choose " + shape, x.choose(shape, 0, 1, 0, -1, -1), 1);
            for (int what = 4; what <= 10; what++) {
                due("shape " + shape + ", what " + what, x.set(0, what), facts[shape][what - 4]);
            }
            due("Z", x.set(0, 2), shape == 7 ? 4 : 0);
            due("I", x.set(0, 3), 0);
            due("choose idle " + shape, x.choose(shape, 0, 1, 0, 2, 1), 1);
            due("together", x.set(0, 8), facts[shape][4] + 11);
            due("the greatest", x.set(0, 9), 11);
            due("the answer and I", x.set(0, 10), facts[shape][0] + 11);
        }
        narrow(x, 3, 3, 9, 9);
        due("choose", x.choose(0, 0, 1, 0, -1, -1), 1);
        due("Y less X", x.set(0, 6), 6);
    }

    private static void temptingWays() {
        under("promise 9");
        SumsInWords x = narrow(people(), 9, 9, 3, 3, 4, 4, 11, 11);
        // Bits by shape: the ways that don't tempt without an idle sentence, told or not.
        int[] notTempting = {0b101001, 0b100010, 0b100000, 0b100100, 0b101001, 0b100000, 0b100010, 0b100000};
        for (int shape = 0; shape < 8; shape++) {
            for (int way = 0; way < 6; way++) {
                x.ways(0);
                due("choose", x.choose(shape, 0, 1, 0, -1, -1), 1);
                int number = x.set(0, way + 5);
                int answer = x.set(0, 4);
                x.ways(1 << way);
                boolean tempts = (notTempting[shape] >> way & 1) == 0;
                int sets = tempts && number == answer ? 0 : 1;
                due("shape " + shape + ", way " + way, x.sets(), sets);
                if (sets == 1 && number != answer) {
                    due("tells, shape " + shape + ", way " + way, x.tells(0, number), tempts ? 1 << way : 0);
                }
                due("tells the answer", x.tells(0, answer), sets == 1 ? 64 : -1);
            }
        }
        SumsInWords z = narrow(people(), 2, 2, 2, 2, 1, 2);
        z.ways(1);
        due("7: X + Y is the answer if Z is 1", z.choose(7, 0, 1, 0, -1, -1), 1);
        z.ways(5);
        due("2: X + Y is X * Y", z.choose(2, 0, 1, 0, -1, -1), 0);
        z.ways(4);
        due("2: X * Y alone", z.sets(), 1);
        SumsInWords y = narrow(people(), 9, 9, 3, 3, 4, 4, 11, 11);
        y.ways(8);
        due("together, idle", y.choose(0, 0, 1, 0, 2, 1), 1);
        due("tells 23", y.tells(0, 23), 8);
        y.ways(40);
        due("idle: together is the answer and I", y.sets(), 0);
        y.ways(32);
        due("the answer and I", y.tells(0, 23), 32);
        due("another", y.tells(0, 24), 0);
    }

    private static void tellings() {
        under("promise 9");
        SumsInWords x = people();
        due("nothing chosen", x.tells(0, 1), -1);
        narrow(x, 5, 5, 3, 3);
        x.ways(0b010110);
        due("choose", x.choose(0, 0, 1, 0, -1, -1), 1);
        due("8", x.tells(0, 8), 64);
        due("2", x.tells(0, 2), 2);
        due("15", x.tells(0, 15), 4);
        due("5", x.tells(0, 5), 16);
        due("7", x.tells(0, 7), 0);
        due("-1", x.tells(0, -1), 0);
        due("set 1", x.tells(1, 8), -1);
        due("set -1", x.tells(-1, 8), -1);
        x.ways(0);
        due("not told", x.tells(0, 2), 0);
        due("the answer still", x.tells(0, 8), 64);
    }

    private static void sheets() {
        under("promise 10");
        SumsInWords x = people();
        due("nothing chosen", x.sheet(5), -1);
        due("choose", x.choose(1, 0, 1, 0, -1, -1), 190);
        due("0", x.sheet(0), -1);
        due("21", x.sheet(21), -1);
        due("-1", x.sheet(-1), -1);
        due("1", x.sheet(1), 1);
        due("20", x.sheet(20), 19);
        due("a wrong one", x.sheet(21), -1);
        due("the old sheet stays", x.count(3), 19);
        due("choose", x.choose(0, 0, 1, 0, -1, -1), 400);
        due("the old sheet still", x.count(3), 19);
        due("20", x.sheet(20), 20);
        narrow(x, 1, 1, 2, 2);
        due("choose", x.choose(1, 0, 1, 0, -1, -1), 0);
        due("nothing fits", x.sheet(20), 0);
        due("empty", x.on(0), -1);
    }

    private static void placesOnSheet() {
        under("promise 11");
        SumsInWords x = narrow(people(), 2, 4, 1, 4);
        due("choose", x.choose(1, 0, 1, 0, -1, -1), 6);
        // 2-1 3-1 3-2 4-1 4-2 4-3: the answers are 1 2 1 3 2 1.
        due("sheet", x.sheet(20), 3);
        due("on 0", x.on(0), 0);
        due("on 1", x.on(1), 1);
        due("on 2", x.on(2), 3);
        due("on 3", x.on(3), -1);
        due("on -1", x.on(-1), -1);
        due("on far", x.on(Integer.MAX_VALUE), -1);
        due("sheet", x.sheet(2), 2);
        due("on 1", x.on(1), 1);
        due("on 2", x.on(2), -1);
        due("idle", x.choose(1, 0, 1, 0, 1, 1), 120);
        due("sheet", x.sheet(20), 3);
        due("on 2", x.on(2), 60);
    }

    private static void writing() {
        under("promise 12");
        SumsInWords x = narrow(people(), 12, 12, 4, 4, 8, 8, 5, 5);
        String[] tales = {
            "ann has 12 pears. ann gets 4 pears. how many pears has ann?",
            "ann has 12 pears. ann loses 4 pears. how many pears has ann?",
            "ann has 12 pears. ann puts them into 4 boxes. how many pears are in a box?",
            "ann has 12 boxes. in a box are 4 pears. how many pears has ann?",
            "ann has 12 pears. ben has 4 pears more than ann. how many pears has ben?",
            "ann has 12 pears. ben has 4 pears more than ann. how many pears have both?",
            "ann gets 4 pears. now ann has 12 pears. how many pears had ann?",
            "ann has 12 pears. ann gets 4 pears. ann puts them into 8 boxes. how many pears are in a box?"};
        for (int shape = 0; shape < 8; shape++) {
            due("choose", x.choose(shape, 0, 1, 0, -1, -1), 1);
            String tale = tales[shape];
            dueTale(x, 0, false, 0, tale);
            dueTale(x, 0, false, -7, tale);
            boolean turns = shape >= 3 && shape <= 5;
            String[] parts = tale.split("(?<=\\.) ");
            String turned = parts[1] + " " + parts[0] + " " + parts[2];
            if (turns) {
                dueTale(x, 0, true, 9, turned);
            } else {
                due("can't be turned", x.write(0, true, 0), -1);
            }
            due("choose idle", x.choose(shape, 0, 1, 0, 2, 1), 1);
            for (int place = 0; place < parts.length; place++) {
                dueTale(x, 0, false, place, withIdle(parts, place));
                if (turns) {
                    dueTale(x, 0, true, place, withIdle(turned.split("(?<=\\.) "), place));
                }
            }
            due("no place", x.write(0, false, parts.length), -1);
            due("no place", x.write(0, false, -1), -1);
            due("no set", x.write(1, false, 0), -1);
            due("no set", x.write(-1, false, 0), -1);
        }
    }

    private static String withIdle(String[] parts, int place) {
        StringBuilder text = new StringBuilder();
        for (int j = 0; j < parts.length; j++) {
            text.append(j == place ? "cyd has 5 cups. " : "").append(parts[j]).append(j < parts.length - 1 ? " " : "");
        }
        return text.toString();
    }

    private static void writtenBytes() {
        under("promise 13");
        SumsInWords x = narrow(people(), 1, 1, 60, 60);
        due("nothing", x.written(0), -1);
        due("choose", x.choose(0, 0, 1, 0, -1, -1), 1);
        dueTale(x, 0, false, 0, "ann has 1 pears. ann gets 60 pears. how many pears has ann?");
        due("first", x.written(0), (int) 'a');
        due("last", x.written(58), (int) '?');
        due("behind", x.written(59), -1);
        due("ahead", x.written(-1), -1);
        due("far", x.written(Integer.MAX_VALUE), -1);
        due("a write that fails", x.write(1, false, 0), -1);
        due("the old tale stays", x.count(2), 59);
        due("shorter", narrow(x, 1, 1, 9, 9).write(0, false, 0), 58);
        due("behind the shorter", x.written(58), -1);
    }

    private static void taking() {
        under("promise 14");
        SumsInWords x = narrow(people(), 8, 8, 2, 2);
        feedText(x, "how");
        due("nothing written", x.take(), -1);
        due("the tape stays", x.count(4), 3);
        due("choose", x.choose(2, 1, 0, 1, 0, 0), 20);
        due("write", x.write(4, false, 1) > 0, true);
        due("take", x.take(), x.count(2));
        due("the tape is that alone", x.count(4), x.count(2));
        due("read", x.read(), 18);
        dueGot(x, 8, 2, -1, 5, 1, -1, 1, 0, 0, 1, 4);
        due("take once more", x.take(), x.count(2));
        due("read once more", x.read(), 18);
    }

    private static void feeding() {
        under("promise 15");
        SumsInWords x = people();
        for (int n = 1; n <= 20; n++) {
            due("feed", x.feed(0x20202020, 0x20202020, 0x20202020, 0x20202020, 0x20202020), 20 * n);
        }
        due("full", x.feed(0, 0, 0, 0, 0), -1);
        due("nothing came", x.count(4), 400);
        due("end", x.end(381), 381);
        due("one too many", x.feed(0, 0, 0, 0, 0), -1);
        due("end", x.end(380), 380);
        due("the last twenty", x.feed(0x20206f66, 0, 0, 0, 0), 400);
        due("read", x.read(), -1);
        due("fault", x.fault(1), 382);
        due("high bytes", x.feed(0x686f7720, 0x6d616e79, 0xffffffff, 0, 0), 20);
        due("read", x.read(), -1);
        due("fault", x.fault(1), 8);
    }

    private static void ending() {
        under("promise 16");
        SumsInWords x = people();
        due("0 of none", x.end(0), 0);
        due("1 of none", x.end(1), -1);
        feedText(x, "ann has 3 pears. ann gets 4 pears. how many pears has ann?ann");
        due("too many", x.end(62), -1);
        due("below", x.end(-1), -1);
        due("far", x.end(Integer.MIN_VALUE), -1);
        due("all", x.end(61), 61);
        due("fewer", x.end(58), 58);
        due("what is gone stays gone", x.end(59), -1);
        due("read", x.read(), 0);
    }

    private static void readingShapes() {
        under("promise 17");
        SumsInWords x = people();
        dueRead(x, "ann has 9999 pears. ann gets 1 pears. how many pears has ann?", 0);
        dueRead(x, "ann has 7 pears. ann loses 8 pears. how many pears has ann?", 1);
        dueRead(x, "ann has 7 pears. ann puts them into 2 boxes. how many pears are in a box?", 2);
        dueRead(x, "ann has 7 boxes. in a box are 2 pears. how many pears has ann?", 3);
        dueRead(x, "in a box are 2 pears. ann has 7 boxes. how many pears has ann?", 11);
        dueRead(x, "ann has 7 pears. ben has 2 pears more than ann. how many pears has ben?", 4);
        dueRead(x, "ben has 2 pears more than ann. ann has 7 pears. how many pears has ben?", 12);
        dueRead(x, "ann has 7 pears. ben has 2 pears more than ann. how many pears have both?", 5);
        dueRead(x, "ben has 2 pears more than ann. ann has 7 pears. how many pears have both?", 13);
        dueRead(x, "ann gets 2 pears. now ann has 7 pears. how many pears had ann?", 6);
        dueRead(x, "ann has 7 pears. ann gets 2 pears. ann puts them into 3 boxes. how many pears are in a box?", 7);
        dueRead(x, "cyd has 1 cups. ann has 7 pears. ann gets 2 pears. how many pears has ann?", 16);
        dueRead(x, "ann has 7 pears. ben has 1 cups. ann loses 2 pears. how many pears has ann?", 17);
        dueRead(x, "ben has 2 pears more than ann. cyd has 5 figs. ann has 7 pears. how many pears have both?", 29);
        dueRead(x, "in a box are 2 pears. ann has 7 boxes. ben has 3 cups. how many pears has ann?", 27);
        dueRead(x, "ann gets 2 pears. now ann has 7 pears. ben has 4 figs. how many pears had ann?", 22);
        dueRead(x, "ann has 7 pears. ann gets 2 pears. cyd has 1 figs. ann puts them into 3 boxes. "
            + "how many pears are in a box?", 23);
        due("the tape is empty", x.read(), -1);
        due("fault", x.fault(0), 1);
        due("place", x.fault(1), 0);
    }

    private static void readingAllowedForms() {
        under("promise 17");
        SumsInWords x = people();
        dueRead(x, "  \n ann\nhas 3\n\npears .ann gets 4pears.how many pears has ann ?\n ", 0);
        SumsInWords y = new SumsInWords();
        y.name(word("n"));
        y.name(word("abcdefgh"));
        y.thing(word("t"), 1);
        dueRead(y, "n has 1 t.n gets 1 t.how many t has n?", 0);
        dueRead(y, "abcdefgh has 1 t.abcdefgh gets 1 t.how many t has abcdefgh?", 0);
        dueFault(y, "abcdefghn has", 1, 0);
        dueFault(y, "aabcdefgh has", 1, 0);
    }

    private static void readingFaults() {
        under("promise 18");
        SumsInWords x = people();
        dueFault(x, "", 1, 0);
        dueFault(x, "   ", 1, 3);
        dueFault(x, "dan has 3 pears.", 1, 0);
        dueFault(x, "pears has 3 pears.", 1, 0);
        dueFault(x, "has", 1, 0);
        dueFault(x, "7", 1, 0);
        dueFault(x, ".", 1, 0);
        dueFault(x, " Ann has 3 pears.", 1, 1);
        dueFault(x, "ann has pears.", 1, 8);
        dueFault(x, "ann has 3 ann.", 1, 10);
        dueFault(x, "ann has 3 hats.", 1, 10);
        dueFault(x, "ann has 3 pears?", 1, 15);
        dueFault(x, "ann has 3 pears more.", 1, 20);
        dueFault(x, "ann has 3 boxes more", 1, 16);
        dueFault(x, "ann has 3 pears more than pears.", 1, 26);
        dueFault(x, "ann gets 3 boxes.", 1, 11);
        dueFault(x, "ann puts them into 3 pears.", 1, 21);
        dueFault(x, "ann puts 3", 1, 9);
        dueFault(x, "now ann gets", 1, 8);
        dueFault(x, "now how", 1, 4);
        dueFault(x, "in a box are 3 boxes.", 1, 15);
        dueFault(x, "in a boxes", 1, 5);
        dueFault(x, "in ab", 1, 3);
        dueFault(x, "ann puts them in 3 boxes.", 1, 14);
        dueFault(x, "in a bo", 1, 5);
        dueFault(x, "how manyy", 1, 4);
        dueFault(x, "how many boxes", 1, 9);
        dueFault(x, "how many pears has ann.", 1, 22);
        dueFault(x, "how many pears are in a box.", 1, 27);
        dueFault(x, "how many pears had both?", 1, 19);
        dueFault(x, "how many pears have ann?", 1, 20);
        dueFault(x, "ann has 0 pears.", 1, 8);
        dueFault(x, "ann has 03 pears.", 1, 8);
        dueFault(x, "ann has 10000 pears.", 1, 8);
        dueFault(x, "ann has 99999999999 pears.", 1, 8);
        dueFault(x, "ann has -3 pears.", 1, 8);
        dueFault(x, "ann has 3\tpears.", 1, 9);
        dueFault(x, "ann has 3\u00a0pears.", 1, 9);
        dueFault(x, "ann has 3 pearS.", 1, 10);
        dueFault(x, "annhas 3 pears.", 1, 0);
        dueFault(x, "ann has 3 pears..", 1, 16);
        dueFault(x, "ann has 3 pears. ", 1, 17);
        dueFault(x, "ann has 3", 1, 9);
        dueFault(x, "how many pears has ann? ?", 1, 24);
        dueFault(x, "how many pears has ann? how many pears has ann?", 1, 24);
        dueFault(x, "how many pears has ann? #", 1, 24);
    }

    private static void readingNoTale() {
        under("promise 18");
        SumsInWords x = people();
        dueFault(x, " how many pears has ann?", 2, 1);
        dueFault(x, "ann has 3 pears. how many pears has ann?", 2, 17);
        dueFault(x, "ann has 3 pears. ann gets 3 cups. how many pears has ann?", 2, 34);
        dueFault(x, "ann has 3 cups. ann gets 3 pears. how many pears has ann?", 2, 34);
        dueFault(x, "in a box are 3 cups. ann has 3 boxes. how many pears has ann?", 2, 38);
        dueFault(x, "ben has 3 cups more than ann. ann has 3 pears. how many pears has ben?", 2, 47);
        dueFault(x, "ann has 3 pears. ben gets 3 pears. how many pears has ann?", 2, 35);
        dueFault(x, "ann has 3 pears. ann gets 3 pears. how many pears has ben?", 2, 35);
        dueFault(x, "ann has 3 pears. ann gets 3 pears. how many cups has ann?", 2, 35);
        dueFault(x, "ann gets 3 pears. ann has 3 pears. how many pears has ann?", 2, 35);
        dueFault(x, "now ann has 3 pears. ann gets 3 pears. how many pears had ann?", 2, 39);
        dueFault(x, "ann has 3 pears. ann has 3 pears more than ann. how many pears has ann?", 2, 48);
        dueFault(x, "ann has 3 pears. ann has 3 pears more than ben. how many pears has ann?", 2, 48);
        dueFault(x, "ann has 3 pears. ben has 3 pears more than ann. how many pears has ann?", 2, 48);
        dueFault(x, "ann has 3 pears. ben has 3 pears more than cyd. how many pears have both?", 2, 48);
        dueFault(x, "ann has 3 boxes. in a box are 3 pears. how many pears are in a box?", 2, 39);
        dueFault(x, "ann has 3 boxes. in a box are 3 pears. how many pears has ben?", 2, 39);
        dueFault(x, "ann has 3 pears. ben puts them into 3 boxes. how many pears are in a box?", 2, 45);
        // An idle sentence of a name or a thing of the tale, or two idle ones, or another form.
        dueFault(x, "ann has 1 cups. ann has 3 pears. ann gets 3 pears. how many pears has ann?", 2, 51);
        dueFault(x, "ben has 1 pears. ann has 3 pears. ann gets 3 pears. how many pears has ann?", 2, 52);
        dueFault(x, "ben has 1 cups. ann has 3 pears. ben has 3 pears more than ann. how many pears has ben?", 2, 64);
        dueFault(x, "ben gets 1 cups. ann has 3 pears. ann gets 3 pears. how many pears has ann?", 2, 52);
        dueFault(x, "ben has 1 cups. cyd has 1 figs. ann has 3 pears. ann gets 3 pears. how many pears has ann?", 2, 67);
        StringBuilder many = new StringBuilder();
        for (int n = 1; n <= 7; n++) {
            many.append("ann gets 3 pears. ");
            dueFault(x, many + "how many pears has ann?", 2, many.length());
        }
        // Sentences beyond the fifth don't hide what is wrong behind them.
        dueFault(x, many + "how many pears has ann? a", 1, many.length() + 24);
        dueFault(x, many + "ann gets 3 dogs.", 1, many.length() + 11);
    }

    private static void faultAnswers() {
        under("promise 18");
        SumsInWords x = people();
        dueFault(x, "how", 1, 3);
        due("what 2", x.fault(2), -1);
        due("what -1", x.fault(-1), -1);
        feedText(x, "how");
        due("a tape fed leaves it", x.fault(1), 3);
        x.end(0);
        dueRead(x, "ann has 7 pears. ann loses 8 pears. how many pears has ann?", 1);
    }

    private static void gotFacts() {
        under("promise 19");
        SumsInWords x = people();
        feedText(x, "how many");
        x.read();
        dueGot(x, -1, -1, -1, -1, -1, -1, -1, -1, -1, -1, -1);
        dueRead(x, "ann has 7 pears. ann gets 2 pears. cyd has 1 figs. ann puts them into 3 boxes. "
            + "how many pears are in a box?", 23);
        dueGot(x, 7, 2, 3, 1, 0, -1, 0, 2, 2, 2, 3, -1);
        due("what -1", x.got(-1), -1);
        due("what far", x.got(Integer.MAX_VALUE), -1);
        dueRead(x, "ben has 2 pears more than ann. ann has 7 pears. how many pears have both?", 13);
        dueGot(x, 7, 2, -1, -1, 0, 1, 0, -1, -1, -1, 16);
        dueFault(x, "how many pears has ann?", 2, 0);
        dueGot(x, 7, 2, -1, -1, 0, 1, 0, -1, -1, -1, 16);
        dueRead(x, "in a box are 9999 cups. cyd has 9998 boxes. how many cups has cyd?", 11);
        dueGot(x, 9998, 9999, -1, -1, 2, -1, 1, -1, -1, -1, 99970002);
        dueRead(x, "ben gets 8 cups. now ben has 8 cups. how many cups had ben?", 6);
        dueGot(x, 8, 8, -1, -1, 1, -1, 1, -1, -1, -1, -2);
        dueRead(x, "ben gets 8 cups. now ben has 9 cups. how many cups had ben?", 6);
        dueGot(x, 9, 8, -1, -1, 1, -1, 1, -1, -1, -1, 1);
        dueRead(x, "ben has 3 cups. ben loses 9 cups. how many cups has ben?", 1);
        due("below 1", x.got(10), -2);
        dueRead(x, "ben has 3 cups. ben puts them into 9 boxes. how many cups are in a box?", 2);
        due("not whole", x.got(10), -2);
        dueRead(x, "ben has 3 cups. ben gets 1 cups. ben puts them into 3 boxes. how many cups are in a box?", 7);
        due("not whole", x.got(10), -2);
    }

    private static void counts() {
        under("promise 20");
        SumsInWords x = narrow(people(), 1, 3, 1, 3);
        x.name(word("dot"));
        due("names", x.count(0), 4);
        due("things", x.count(1), 3);
        x.choose(0, 0, 0, 0, -1, -1);
        x.write(0, false, 0);
        due("written", x.count(2), 58);
        x.sheet(4);
        due("sheet", x.count(3), 4);
        x.feed(0, 0, 0, 0, 0);
        due("tape", x.count(4), 20);
        due("what 5", x.count(5), -1);
        due("what -1", x.count(-1), -1);
    }

    private static void images() {
        under("promise 21");
        SumsInWords x = people();
        due("image 3", x.image(3), false);
        due("image -1", x.image(-1), false);
        due("image 0", x.image(0), true);
        narrow(x, 1, 3, 1, 3);
        x.ways(6);
        due("choose", x.choose(0, 0, 0, 0, -1, -1), 8);
        dueTale(x, 0, false, 0, "ann has 1 pears. ann gets 1 pears. how many pears has ann?");
        due("take", x.take(), 58);
        due("read", x.read(), 0);
        dueFault(x, "how many a", 1, 9);
        due("sheet", x.sheet(3), 3);
        feedText(x, "ann has");
        due("image 1", x.image(1), true);
        under("promise 22");
        due("again 2", x.again(2), false);
        due("again 3", x.again(3), false);
        due("again -1", x.again(-1), false);
        due("again 0", x.again(0), true);
        due("nothing chosen", x.sets(), -1);
        due("no set", x.set(0, 0), -1);
        due("nothing written", x.written(0), -1);
        due("nothing to take", x.take(), -1);
        due("no sheet", x.on(0), -1);
        due("no tape", x.count(4), 0);
        due("no fault", x.fault(0), 0);
        due("nothing read", x.got(0), -1);
        due("spans as at first, no ways", x.choose(0, 0, 0, 0, -1, -1), 400);
        due("dot", x.name(word("dot")), 3);
        due("again 1", x.again(1), true);
        due("no dot", x.count(0), 3);
        due("sets", x.sets(), 8);
        due("written", writtenText(x), "ann has 1 pears. ann gets 1 pears. how many pears has ann?");
        due("sheet", x.on(2), 2);
        due("fault", x.fault(1), 9);
        due("got", x.got(10), 2);
        due("tape", x.count(4), 7);
        feedText(x, " 3 pears. ann gets 4 pears. how many pears has ann?");
        due("the tape goes on", x.read(), 0);
        due("image 1 stays", x.again(1), true);
        due("its tape", x.count(4), 7);
        due("image 1 anew", x.image(1), true);
        due("image 0 stays", x.again(0), true);
        due("things", x.count(1), 3);
        due("sets", x.sets(), -1);
        imageOfChoice();
    }

    private static void imageOfChoice() {
        SumsInWords x = narrow(people(), 6, 6, 7, 7, 1, 1, 4, 4);
        due("choose", x.choose(4, 1, 2, 1, 0, 2), 1);
        dueFault(x, "how", 1, 3);
        due("image", x.image(2), true);
        due("another choice", narrow(x, 8, 8).choose(5, 0, 1, 0, -1, -1), 1);
        due("a thing more", x.thing(word("hats"), 7), 3);
        dueFault(x, "how many", 1, 8);
        due("again", x.again(2), true);
        dueTale(x, 0, true, 1, "cyd has 7 cups more than ben. ann has 4 figs. ben has 6 cups. how many cups has cyd?");
        due("things", x.count(1), 3);
        due("fault's place", x.fault(1), 3);
    }
}
