import java.util.ArrayList;
import java.util.Arrays;
import java.util.HashMap;
import java.util.List;
import java.util.Map;
import java.util.Random;
import java.util.TreeSet;
import java.util.regex.Matcher;
import java.util.regex.Pattern;

/**
 * Many runs of calls, each answer compared with that of a second program, which is written from
 * the document by other means: all sets in a list, all tales of the told words spelt out, and
 * the sentences as one regular expression over tokens.
 */
public final class ModelTest {
    /** More runs: java -Druns=3000 ModelTest. */
    private static final int RUNS = Integer.getInteger("runs", 120);
    private static final int CALLS = 250;
    private static final String[] SENTENCES = {
        "n has x t .", "n has x boxes .", "n gets x t .", "n loses x t .", "n puts them into x boxes .",
        "in a box are x t .", "m has x t more than n .", "now n has x t .",
        "how many t has n ?", "how many t are in a box ?", "how many t have both ?", "how many t had n ?"};
    private static final String[] TALES = {"ACP", "ADP", "AEQ", "BFP", "AGM", "AGR", "CHS", "ACEQ"};
    private static final String[] NUMBERS = {"XY", "XY", "XY", "XY", "XY", "XY", "YX", "XYZ"};
    private static final String[] WORDS = {
        "ann", "ben", "cyd", "dot", "eve", "fay", "gus", "pears", "cups", "figs", "hats", "nuts", "pins", "jars",
        "has", "box", "a", "b", "zzzzzzzz", "abcdefgh"};

    public static void main(String[] args) {
        for (int run = 0; run < RUNS; run++) {
            new Run(run).go();
            Model.TALES_OF_WORDS.clear();
        }
        System.out.println("all answers of " + RUNS + " runs are as the model has them");
    }

    private static long packed(String text) {
        long word = 0;
        for (char letter : text.toCharArray()) {
            word = word << 8 | letter & 255;
        }
        return word;
    }

    /** Where the sentence of a letter stands in SENTENCES; M is P, asked of m. */
    private static String sentence(char letter) {
        if (letter == 'M') {
            return "how many t has m ?";
        }
        return SENTENCES[letter >= 'P' ? letter - 'P' + 8 : letter - 'A'];
    }

    private static String join(String tokens) {
        return tokens.replace(" .", ".").replace(" ?", "?");
    }

    private static final class Model implements Cloneable {
        List<String> names = new ArrayList<>();
        List<String> things = new ArrayList<>();
        List<Integer> mosts = new ArrayList<>();
        int[][] spans = {{1, 20}, {1, 20}, {1, 20}, {1, 20}};
        int told;
        int[] chosen;
        List<Integer> sheet = new ArrayList<>();
        String text;
        String tape = "";
        int[] facts;
        int fault;
        int place = -1;
        List<int[]> sets;

        Model copy() {
            try {
                Model copy = (Model) clone();
                copy.names = new ArrayList<>(names);
                copy.things = new ArrayList<>(things);
                copy.mosts = new ArrayList<>(mosts);
                copy.spans = new int[][] {spans[0].clone(), spans[1].clone(), spans[2].clone(), spans[3].clone()};
                copy.sheet = new ArrayList<>(sheet);
                return copy;
            } catch (CloneNotSupportedException e) {
                throw new AssertionError(e);
            }
        }

        boolean mayBe(String word) {
            List<String> kept = Arrays.asList(String.join(" ", SENTENCES).split("[ .?]+"));
            return word.matches("[a-z]{1,8}") && (word.matches("[nmtx]") || !kept.contains(word))
                && !names.contains(word) && !things.contains(word);
        }

        int name(String word) {
            return names.size() < 6 && mayBe(word) && names.add(word) ? names.size() - 1 : -1;
        }

        int thing(String word, int most) {
            if (things.size() >= 6 || !mayBe(word) || most < 1 || most > 9999) {
                return -1;
            }
            things.add(word);
            mosts.add(most);
            return things.size() - 1;
        }

        boolean span(int what, int least, int greatest) {
            if (what < 0 || what > 3 || least < 1 || greatest > 60 || greatest < least || greatest > least + 19) {
                return false;
            }
            spans[what] = new int[] {least, greatest};
            sets = null;
            return true;
        }

        boolean ways(int bits) {
            if ((bits & ~63) != 0) {
                return false;
            }
            told = bits;
            sets = null;
            return true;
        }

        boolean pair(int shape) {
            return shape == 4 || shape == 5;
        }

        int choose(int shape, int n, int m, int t, int idleName, int idleThing) {
            boolean idle = idleName != -1 || idleThing != -1;
            List<Integer> people = new ArrayList<>(List.of(n));
            List<Integer> stuff = new ArrayList<>(List.of(t));
            if (pair(shape)) {
                people.add(m);
            }
            if (idle) {
                people.add(idleName);
                stuff.add(idleThing);
            }
            TreeSet<Integer> who = new TreeSet<>(people);
            TreeSet<Integer> what = new TreeSet<>(stuff);
            if (shape < 0 || shape > 7 || who.size() < people.size() || what.size() < stuff.size()
                || who.first() < 0 || who.last() >= names.size() || what.first() < 0 || what.last() >= things.size()) {
                return -1;
            }
            chosen = new int[] {shape, n, m, t, idleName, idleThing};
            sets = null;
            return sets();
        }

        static double exact(int shape, int x, int y, int z) {
            double[] answers = {x + y, x - y, (double) x / y, x * y, x + y, 2 * x + y, x - y, (double) (x + y) / z};
            return answers[shape];
        }

        int[] wayNumbers(int[] set) {
            int[] sorted = Arrays.copyOf(set, 4);
            Arrays.sort(sorted);
            return new int[] {set[0] + set[1], Math.max(set[0] - set[1], set[1] - set[0]), set[0] * set[1],
                set[0] + set[1] + set[2] + set[3], sorted[3], set[4] + set[3]};
        }

        int tempting() {
            int shape = chosen[0];
            boolean idle = chosen[4] != -1;
            int not = 0;
            not |= shape == 0 || shape == 4 ? 1 : 0;
            not |= shape == 1 || shape == 6 ? 2 : 0;
            not |= shape == 3 ? 4 : 0;
            not |= (shape == 0 || shape == 4) && !idle ? 8 : 0;
            not |= !idle ? 32 : 0;
            return told & ~not;
        }

        boolean fits(int[] set) {
            int shape = chosen[0];
            double answer = exact(shape, set[0], set[1], set[2]);
            if (answer < 1 || answer != Math.rint(answer)) {
                return false;
            }
            int most = mosts.get(chosen[3]);
            List<Double> bounded = new ArrayList<>(List.of(answer));
            bounded.add(shape == 3 ? 0.0 : set[0]);
            bounded.add(shape == 2 ? 0.0 : set[1]);
            bounded.add(shape == 7 || shape == 5 ? set[0] + set[1] : 0.0);
            if (bounded.stream().anyMatch(b -> b > most)) {
                return false;
            }
            if (chosen[4] != -1 && set[3] > mosts.get(chosen[5])) {
                return false;
            }
            set[4] = (int) answer;
            TreeSet<Integer> unlike = new TreeSet<>(List.of(set[4]));
            for (int way = 0; way < 6; way++) {
                if ((tempting() >> way & 1) == 1 && !unlike.add(wayNumbers(set)[way])) {
                    return false;
                }
            }
            return true;
        }

        int sets() {
            if (chosen == null) {
                return -1;
            }
            if (sets == null) {
                sets = new ArrayList<>();
                int[] z = chosen[0] == 7 ? spans[2] : new int[2];
                int[] i = chosen[4] != -1 ? spans[3] : new int[2];
                for (int a = spans[0][0]; a <= spans[0][1]; a++) {
                    for (int b = spans[1][0]; b <= spans[1][1]; b++) {
                        for (int c = z[0]; c <= z[1]; c++) {
                            for (int d = i[0]; d <= i[1]; d++) {
                                int[] set = {a, b, c, d, 0};
                                if (fits(set)) {
                                    sets.add(set);
                                }
                            }
                        }
                    }
                }
            }
            return sets.size();
        }

        boolean has(int k) {
            return k >= 0 && k < sets();
        }

        int set(int k, int what) {
            if (!has(k) || what < 0 || what > 10) {
                return -1;
            }
            return what < 5 ? sets.get(k)[what] : wayNumbers(sets.get(k))[what - 5];
        }

        int tells(int k, int number) {
            if (!has(k)) {
                return -1;
            }
            int bits = sets.get(k)[4] == number ? 64 : 0;
            for (int way = 0; way < 6; way++) {
                bits |= wayNumbers(sets.get(k))[way] == number ? tempting() & 1 << way : 0;
            }
            return bits;
        }

        int sheet(int n) {
            if (chosen == null || n < 1 || n > 20) {
                return -1;
            }
            sheet = new ArrayList<>();
            TreeSet<Integer> answers = new TreeSet<>();
            for (int k = 0; k < sets() && sheet.size() < n; k++) {
                if (answers.add(sets.get(k)[4])) {
                    sheet.add(k);
                }
            }
            return sheet.size();
        }

        /** A tale as tokens with one blank between each two, numbers as # if there are none. */
        String tale(int[] who, boolean turned, int place, int[] set) {
            int shape = who[0];
            List<String> parts = new ArrayList<>();
            String numbers = NUMBERS[shape];
            for (int j = 0; j < TALES[shape].length(); j++) {
                String number = "#";
                if (set != null && j < numbers.length()) {
                    number = Integer.toString(set["XYZ".indexOf(numbers.charAt(j))]);
                }
                String m = pair(shape) ? names.get(who[2]) : "";
                parts.add(fill(sentence(TALES[shape].charAt(j)), names.get(who[1]), m, things.get(who[3]), number));
            }
            if (turned) {
                parts.add(1, parts.remove(0));
            }
            if (who[4] != -1) {
                String number = set == null ? "#" : Integer.toString(set[3]);
                parts.add(place, fill(sentence('A'), names.get(who[4]), "", things.get(who[5]), number));
            }
            return String.join(" ", parts);
        }

        static String fill(String form, String n, String m, String t, String x) {
            StringBuilder text = new StringBuilder();
            for (String part : form.split(" ")) {
                Map<String, String> by = Map.of("n", n, "m", m, "t", t, "x", x);
                text.append(text.length() == 0 ? "" : " ").append(by.getOrDefault(part, part));
            }
            return text.toString();
        }

        int write(int k, boolean turned, int place) {
            if (!has(k) || turned && (chosen[0] < 3 || chosen[0] > 5)) {
                return -1;
            }
            if (chosen[4] != -1 && (place < 0 || place >= TALES[chosen[0]].length())) {
                return -1;
            }
            text = join(tale(chosen, turned, place, sets.get(k)));
            return text.length();
        }

        int read() {
            String read = tape;
            tape = "";
            List<String> tokens = new ArrayList<>();
            List<Integer> places = new ArrayList<>();
            Matcher lexer = Pattern.compile("[ \\n]*([a-z]+|[0-9]+|[.?]|[^ \\n])", Pattern.DOTALL).matcher(read);
            while (lexer.lookingAt()) {
                tokens.add(lexer.group(1));
                places.add(lexer.start(1));
                lexer.region(lexer.end(), read.length());
            }
            StringBuilder kinds = new StringBuilder();
            for (int j = 0; j < tokens.size(); j++) {
                kinds.append(kind(tokens.get(j)));
                if (!goesOn(kinds, true)) {
                    return fault(1, places.get(j));
                }
            }
            if (!goesOn(kinds, false)) {
                return fault(1, read.length());
            }
            int question = places.get(Math.max(tokens.lastIndexOf("."), -1) + 1);
            return find(tokens, question);
        }

        int fault(int kind, int at) {
            fault = kind;
            place = at;
            return -1;
        }

        char kind(String token) {
            List<String> kept = new ArrayList<>(List.of("has", "boxes", "gets", "loses", "puts", "them", "into", "in",
                "a", "box", "are", "more", "than", "now", "how", "many", "have", "both", "had", ".", "?"));
            if (names.contains(token)) {
                return 'N';
            }
            if (things.contains(token)) {
                return 'T';
            }
            if (token.matches("[1-9][0-9]{0,3}")) {
                return 'X';
            }
            return kept.contains(token) ? (char) ('a' + kept.indexOf(token)) : '!';
        }

        boolean goesOn(CharSequence kinds, boolean open) {
            Matcher matcher = ROWS.matcher(kinds);
            return matcher.matches() || open && matcher.hitEnd();
        }

        private static final Pattern ROWS = rows();

        /** Rows of sentences and a question, each token one sign. */
        static Pattern rows() {
            StringBuilder[] either = {new StringBuilder(), new StringBuilder()};
            Model wordless = new Model();
            for (int j = 0; j < SENTENCES.length; j++) {
                StringBuilder row = either[j / 8];
                row.append(row.length() == 0 ? "" : "|");
                for (String part : SENTENCES[j].split(" ")) {
                    row.append(part.matches("[nm]") ? "N" : part.equals("t") ? "T" : part.equals("x") ? "X"
                        : Pattern.quote(Character.toString(wordless.kind(part))));
                }
            }
            return Pattern.compile("(" + either[0] + ")*(" + either[1] + ")");
        }

        int find(List<String> tokens, int question) {
            StringBuilder plain = new StringBuilder();
            List<Integer> numbers = new ArrayList<>();
            for (String token : tokens) {
                boolean number = Character.isDigit(token.charAt(0));
                plain.append(plain.length() == 0 ? "" : " ").append(number ? "#" : token);
                if (number) {
                    numbers.add(Integer.parseInt(token));
                }
            }
            int[] found = allTales().get(plain.toString());
            if (found == null) {
                return fault(2, question);
            }
            fault(0, -1);
            keep(found, numbers);
            return found[0] + (found[6] == 1 ? 8 : 0) + (found[4] != -1 ? 16 : 0);
        }

        void keep(int[] found, List<Integer> numbers) {
            int shape = found[0];
            boolean idle = found[4] != -1;
            int i = idle ? numbers.remove(found[7]) : -1;
            int first = numbers.get(0);
            int second = numbers.get(1);
            boolean swapped = (shape == 6) != (found[6] == 1);
            int x = swapped ? second : first;
            int y = swapped ? first : second;
            int z = shape == 7 ? numbers.get(2) : -1;
            double answer = exact(shape, x, y, z);
            boolean whole = answer >= 1 && answer == Math.rint(answer);
            facts = new int[] {x, y, z, i, found[1], pair(shape) ? found[2] : -1, found[3], found[4], found[5],
                idle ? found[7] : -1, whole ? (int) answer : -2};
        }

        private static final Map<String, Map<String, int[]>> TALES_OF_WORDS = new HashMap<>();

        /** Every tale of the told names and things, without its numbers. */
        Map<String, int[]> allTales() {
            return TALES_OF_WORDS.computeIfAbsent(names + " " + things, key -> {
                Map<String, int[]> all = new HashMap<>();
                for (int code = 0; code < 8 * 6 * 6 * 6; code++) {
                    int shape = code % 8;
                    int n = code / 8 % 6;
                    int m = code / 48 % 6;
                    int t = code / 288;
                    if (n < names.size() && t < things.size() && (pair(shape) ? m < names.size() && m != n : m == 0)) {
                        addTales(all, shape, n, m, t);
                    }
                }
                return all;
            });
        }

        void addTales(Map<String, int[]> all, int shape, int n, int m, int t) {
            for (int turned = 0; turned < (shape >= 3 && shape <= 5 ? 2 : 1); turned++) {
                addTale(all, new int[] {shape, n, m, t, -1, -1, turned, -1});
                for (int name = 0; name < names.size(); name++) {
                    for (int thing = 0; thing < things.size(); thing++) {
                        boolean unlike = name != n && thing != t && !(pair(shape) && name == m);
                        for (int place = 0; unlike && place < TALES[shape].length(); place++) {
                            addTale(all, new int[] {shape, n, m, t, name, thing, turned, place});
                        }
                    }
                }
            }
        }

        void addTale(Map<String, int[]> all, int[] found) {
            if (all.put(tale(found, found[6] == 1, found[7], null), found) != null) {
                throw new IllegalStateException("two readings of one tale");
            }
        }
    }

    private static final class Run {
        private final int number;
        private final Random random;
        private final SumsInWords real = new SumsInWords();
        private Model model = new Model();
        private final Model[] images = new Model[3];
        private final StringBuilder calls = new StringBuilder();

        Run(int number) {
            this.number = number;
            random = new Random(number * 7919L + 5);
        }

        int upTo(int bound) {
            return random.nextInt(bound);
        }

        void due(String call, Object got, Object want) {
            calls.append(call).append(" -> ").append(want).append('\n');
            if (!got.equals(want)) {
                System.out.println(calls);
                System.out.println("run " + number + ": " + call + " answered " + got + ", the model " + want);
                System.exit(1);
            }
        }

        void go() {
            for (int n = 0; n < 2 + upTo(3); n++) {
                name(WORDS[n]);
                thing(WORDS[7 + n], upTo(3) == 0 ? 1 + upTo(30) : 20 + upTo(200));
            }
            for (int call = 0; call < CALLS; call++) {
                if (upTo(3) == 0) {
                    change();
                } else if (upTo(3) == 0) {
                    tape();
                } else {
                    ask();
                }
            }
        }

        void name(String word) {
            due("name " + word, real.name(packed(word)), model.name(word));
        }

        void thing(String word, int most) {
            due("thing " + word + " " + most, real.thing(packed(word), most), model.thing(word, most));
        }

        void change() {
            int what = upTo(20);
            if (what == 0) {
                name(WORDS[upTo(WORDS.length)]);
            } else if (what == 1) {
                thing(WORDS[upTo(WORDS.length)], upTo(8) == 0 ? upTo(2) * 10000 : 1 + upTo(300));
            } else if (what < 6) {
                int least = upTo(50);
                int greatest = least + upTo(upTo(2) == 0 ? 4 : 21) - (upTo(9) == 0 ? 2 : 0);
                if (upTo(2) == 0) {
                    greatest = greatest - least + 1;
                    least = 1;
                }
                int number = upTo(10) == 0 ? upTo(7) - 1 : upTo(4);
                due("span " + number + " " + least + " " + greatest, real.span(number, least, greatest),
                    model.span(number, least, greatest));
            } else if (what < 9) {
                int bits = upTo(3) == 0 ? 1 << upTo(7) : upTo(3) == 0 ? upTo(66) - 1 : 0;
                due("ways " + bits, real.ways(bits), model.ways(bits));
            } else if (what < 16) {
                choose();
            } else if (what == 16) {
                int k = upTo(5) - 1;
                due("image " + k, real.image(k), k >= 0 && k < 3);
                if (k >= 0 && k < 3) {
                    images[k] = model.copy();
                }
            } else if (what == 17) {
                int k = upTo(5) - 1;
                boolean there = k >= 0 && k < 3 && images[k] != null;
                due("again " + k, real.again(k), there);
                model = there ? images[k].copy() : model;
            } else {
                int n = upTo(22);
                due("sheet " + n, real.sheet(n), model.sheet(n));
            }
        }

        void choose() {
            int shape = upTo(20) == 0 ? upTo(10) - 1 : upTo(8);
            int n = upTo(model.names.size());
            int m = upTo(3) == 0 ? upTo(8) - 1 : (n + 1) % model.names.size();
            int t = upTo(8) == 0 ? upTo(8) - 1 : upTo(model.things.size());
            int idleName = -1;
            int idleThing = -1;
            if (upTo(2) == 0) {
                idleName = upTo(5) == 0 ? upTo(9) - 2 : (n + 2) % model.names.size();
                idleThing = upTo(5) == 0 ? upTo(9) - 2 : (t + 1) % model.things.size();
            }
            due("choose " + Arrays.toString(new int[] {shape, n, m, t, idleName, idleThing}),
                real.choose(shape, n, m, t, idleName, idleThing), model.choose(shape, n, m, t, idleName, idleThing));
        }

        int someSet() {
            int size = model.sets();
            return size < 1 || upTo(8) == 0 ? upTo(5) - 2 + Math.max(size, 0) : upTo(size);
        }

        void ask() {
            int k = someSet();
            int what = upTo(13) - 1;
            switch (upTo(7)) {
                case 0:
                    due("sets", real.sets(), model.sets());
                    break;
                case 1:
                case 2:
                    due("set " + k + " " + what, real.set(k, what), model.set(k, what));
                    break;
                case 3:
                    int number = upTo(3) == 0 ? upTo(60) : model.set(k, 4 + upTo(7));
                    due("tells " + k + " " + number, real.tells(k, number), model.tells(k, number));
                    break;
                case 4:
                    int j = upTo(22) - 1;
                    due("on " + j, real.on(j), j >= 0 && j < model.sheet.size() ? model.sheet.get(j) : -1);
                    break;
                case 5:
                    int[] counts = {-1, model.names.size(), model.things.size(), model.text == null ? 0
                        : model.text.length(), model.sheet.size(), model.tape.length(), -1};
                    int which = upTo(7);
                    due("count " + (which - 1), real.count(which - 1), counts[which]);
                    break;
                default:
                    due("got " + what, real.got(what), what < 0 || what > 10 || model.facts == null ? -1
                        : model.facts[what]);
                    int side = upTo(4) - 1;
                    due("fault " + side, real.fault(side), side == 0 ? model.fault : side == 1 ? model.place : -1);
            }
        }

        void tape() {
            int what = upTo(10);
            if (what < 3) {
                int k = someSet();
                boolean turned = upTo(3) == 0;
                int place = upTo(6) - 1;
                due("write " + k + " " + turned + " " + place, real.write(k, turned, place),
                    model.write(k, turned, place));
                allWritten();
            } else if (what == 3) {
                due("take", real.take(), model.text == null ? -1 : model.text.length());
                model.tape = model.text == null ? model.tape : model.text;
            } else if (what == 4) {
                int n = upTo(model.tape.length() + 3) - 1;
                boolean there = n >= 0 && n <= model.tape.length();
                due("end " + n, real.end(n), there ? n : -1);
                model.tape = there ? model.tape.substring(0, n) : model.tape;
            } else if (what == 5) {
                readAll();
            } else {
                feed(upTo(2) == 0 ? spoil(someTale()) : someTale());
                if (upTo(4) != 0) {
                    readAll();
                }
            }
        }

        void allWritten() {
            int length = model.text == null ? 0 : model.text.length();
            for (int j = 0; j < length; j++) {
                if (real.written(j) != model.text.charAt(j)) {
                    due("written " + j, real.written(j), (int) model.text.charAt(j));
                }
            }
            due("written " + length, real.written(length), -1);
        }

        void readAll() {
            String tape = model.tape;
            due("read [" + tape + "]", real.read(), model.read());
            due("fault 0", real.fault(0), model.fault);
            due("fault 1", real.fault(1), model.place);
            for (int what = 0; what <= 10; what++) {
                due("got " + what, real.got(what), model.facts == null ? -1 : model.facts[what]);
            }
        }

        void feed(String text) {
            int length = model.tape.length() + text.length();
            for (int at = 0; at < text.length(); at += 20) {
                String twenty = text.substring(at, Math.min(text.length(), at + 20));
                while (twenty.length() < 20) {
                    twenty += " ";
                }
                int[] five = new int[5];
                for (int j = 0; j < 5; j++) {
                    five[j] = (int) packed(twenty.substring(4 * j, 4 * j + 4));
                }
                boolean room = model.tape.length() <= 380;
                model.tape += room ? twenty : "";
                due("feed", real.feed(five[0], five[1], five[2], five[3], five[4]), room ? model.tape.length() : -1);
            }
            int n = Math.min(length, model.tape.length());
            due("end", real.end(n), n);
            model.tape = model.tape.substring(0, n);
        }

        String someName() {
            return model.names.get(upTo(3) == 0 ? upTo(model.names.size()) : 0);
        }

        String someThing() {
            return model.things.get(upTo(4) == 0 ? upTo(model.things.size()) : 0);
        }

        String someNumber() {
            return Integer.toString(1 + upTo(upTo(6) == 0 ? 9999 : 12));
        }

        /** A true tale, perhaps with some sentences changed, put in or left out. */
        String someTale() {
            int size = model.names.size();
            int shape = upTo(8);
            int n = upTo(size);
            int t = upTo(model.things.size());
            boolean idle = upTo(2) == 0 && size > 2 && model.things.size() > 1;
            int[] who = {shape, n, (n + 1) % size, t, idle ? (n + 2) % size : -1,
                idle ? (t + 1) % model.things.size() : -1};
            boolean turned = upTo(2) == 0 && (shape >= 3 && shape <= 5 || upTo(9) == 0);
            int[] set = {1 + upTo(40), 1 + upTo(9), 1 + upTo(4), 1 + upTo(9999)};
            String tale = model.tale(who, turned, upTo(TALES[shape].length()), set);
            List<String> parts = new ArrayList<>(Arrays.asList(tale.split("(?<=[.?]) ")));
            for (int times = upTo(3) == 0 ? 1 + upTo(2) : 0; times > 0; times--) {
                int at = upTo(parts.size());
                String other = Model.fill(SENTENCES[upTo(upTo(5) == 0 ? 12 : 8)], someName(), someName(),
                    someThing(), someNumber());
                switch (upTo(4)) {
                    case 0:
                        parts.set(at, other);
                        break;
                    case 1:
                        parts.add(at, other);
                        break;
                    case 2:
                        parts.add(at, parts.get(upTo(parts.size())));
                        break;
                    default:
                        parts.remove(parts.size() > 1 ? at : 0);
                        parts.add("how many " + someThing() + " has " + someName() + " ?");
                }
            }
            return upTo(3) == 0 ? String.join("\n", parts) : join(String.join(" ", parts));
        }

        /** A text with a token or a byte changed, put in or left out. */
        String spoil(String text) {
            String tokens = "has boxes in a box now how many more than . ? 0 00 12345 9999 1 12 # A \u00e9 \t";
            String[] others = tokens.split(" ");
            List<String> parts = new ArrayList<>(Arrays.asList(text.replace(".", " .").split(" ")));
            int at = upTo(parts.size());
            switch (upTo(6)) {
                case 0:
                    parts.set(at, others[upTo(others.length)]);
                    break;
                case 1:
                    parts.add(at, others[upTo(others.length)]);
                    break;
                case 2:
                    parts.set(at, upTo(2) == 0 ? someName() : someThing());
                    break;
                case 3:
                    parts.remove(at);
                    break;
                case 4:
                    parts.set(at, parts.get(at) + (upTo(2) == 0 ? "s" : "\n"));
                    break;
                default:
                    String whole = String.join(" ", parts);
                    int cut = upTo(whole.length());
                    return upTo(2) == 0 ? whole.substring(0, cut) : whole.substring(0, cut) + whole.substring(cut + 1);
            }
            return String.join(" ", parts);
        }
    }
}
