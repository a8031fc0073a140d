import java.io.IOException;
import java.nio.charset.StandardCharsets;
import java.util.function.Supplier;

/** What the tests share: answers that are due, told words, tapes and tales. */
abstract class Kit {
    private static int wrong = 0;
    private static String heading = "";
    private static Document document;

    /** What the answers from here on are asked for. */
    static void under(String text) {
        heading = text;
    }

    /** The answers from here on are asked for by a sentence, which must stand in the document there. */
    static void sentence(String where, String text) {
        under(where + " (" + text + ")");
        due("it stands in the document", document.says(where, text), true);
    }

    static void open(String[] args) throws IOException {
        document = new Document(args.length > 0 ? args[0] : ".");
    }

    static void dueAllNamed(String kind) {
        under(kind);
        due("headings without a sentence", document.notNamed(kind).toString(), "[]");
    }

    static void finish(String good) {
        System.out.println(wrong == 0 ? good : wrong + " answers are not as due");
        if (wrong != 0) {
            System.exit(1);
        }
    }

    static void due(String what, Object got, Object want) {
        if (!got.equals(want)) {
            wrong++;
            System.out.println(heading + ": " + what + ": " + got + ", due is " + want);
        }
    }

    static long word(String text) {
        long word = 0;
        for (char letter : text.toCharArray()) {
            word = word << 8 | letter;
        }
        return word;
    }

    /** ann, ben, cyd; pears (90), cups (90), figs (5). */
    static SumsInWords people() {
        SumsInWords x = new SumsInWords();
        x.name(word("ann"));
        x.name(word("ben"));
        x.name(word("cyd"));
        x.thing(word("pears"), 90);
        x.thing(word("cups"), 90);
        x.thing(word("figs"), 5);
        return x;
    }

    static SumsInWords narrow(SumsInWords x, int... spans) {
        for (int what = 0; what < spans.length / 2; what++) {
            due("span " + what, x.span(what, spans[2 * what], spans[2 * what + 1]), true);
        }
        return x;
    }

    static void feedText(SumsInWords x, String text) {
        byte[] bytes = text.getBytes(StandardCharsets.ISO_8859_1);
        int before = x.count(4);
        for (int at = 0; at < bytes.length; at += 20) {
            int[] five = new int[5];
            for (int j = 0; j < 20; j++) {
                int sign = at + j < bytes.length ? bytes[at + j] & 255 : 0;
                five[j / 4] = five[j / 4] << 8 | sign;
            }
            x.feed(five[0], five[1], five[2], five[3], five[4]);
        }
        due("end", x.end(before + bytes.length), before + bytes.length);
    }

    static String writtenText(SumsInWords x) {
        StringBuilder text = new StringBuilder();
        for (int j = 0; x.written(j) != SumsInWords.NONE; j++) {
            text.append((char) x.written(j));
        }
        return text.toString();
    }

    static void dueTale(SumsInWords x, int k, boolean turned, int place, String text) {
        due("write " + text, x.write(k, turned, place), text.length());
        due("text", writtenText(x), text);
    }

    static void dueRead(SumsInWords x, String text, int code) {
        feedText(x, text);
        due("read " + text, x.read(), code);
        due("fault of " + text, x.fault(0), 0);
        due("fault's place of " + text, x.fault(1), -1);
        due("tape behind " + text, x.count(4), 0);
    }

    static void dueFault(SumsInWords x, String text, int fault, int place) {
        feedText(x, text);
        due("read " + text, x.read(), -1);
        due("fault of " + text, x.fault(0), fault);
        due("fault's place of " + text, x.fault(1), place);
        due("tape behind " + text, x.count(4), 0);
    }

    static void dueGot(SumsInWords x, int... facts) {
        for (int what = 0; what < facts.length; what++) {
            due("got " + what, x.got(what), facts[what]);
        }
    }

    static void dueSet(SumsInWords x, int k, int... facts) {
        for (int what = 0; what < facts.length; what++) {
            due("set " + k + " " + what, x.set(k, what), facts[what]);
        }
    }

    /** Numbers next to a range and far outside it, at the ends of int and where a byte would wrap around. */
    static int[] outside(int least, int greatest) {
        return new int[] {Integer.MIN_VALUE, Integer.MIN_VALUE + 1, least - 2, least - 1, greatest + 1, greatest + 2,
            least - 256, greatest + 256, greatest + 65536, Integer.MAX_VALUE - 1, Integer.MAX_VALUE};
    }

    /** A call that is refused: its answer is as due, and nothing that can be asked for has changed. */
    static void refused(SumsInWords x, String what, Supplier<Object> call, Object want) {
        String before = seen(x);
        due(what, call.get(), want);
        due("what is there behind " + what, seen(x), before);
    }

    static void refused(SumsInWords x, String what, Supplier<Object> call) {
        refused(x, what, call, -1);
    }

    /** All that can be asked for without a change. */
    static String seen(SumsInWords x) {
        StringBuilder text = new StringBuilder();
        for (int what = 0; what <= 4; what++) {
            text.append(x.count(what)).append(' ');
        }
        text.append("fault ").append(x.fault(0)).append(' ').append(x.fault(1)).append(" got");
        for (int what = 0; what <= 10; what++) {
            text.append(' ').append(x.got(what));
        }
        text.append(" sheet");
        for (int j = 0; j < 20; j++) {
            text.append(' ').append(x.on(j));
        }
        int sets = x.sets();
        text.append(" sets ").append(sets);
        for (int k = 0; k < sets; k += Math.max(1, sets - 1)) {
            for (int what = 0; what <= 10; what++) {
                text.append(' ').append(x.set(k, what)).append(' ').append(x.tells(k, x.set(k, what)));
            }
        }
        return text.append(' ').append(writtenText(x)).toString();
    }
}
