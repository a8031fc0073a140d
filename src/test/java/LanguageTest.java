import java.io.IOException;
import java.lang.management.ManagementFactory;
import java.lang.reflect.Constructor;
import java.lang.reflect.Field;
import java.lang.reflect.Member;
import java.lang.reflect.Method;
import java.lang.reflect.Modifier;
import java.nio.file.Files;
import java.nio.file.Path;
import java.util.ArrayList;
import java.util.Arrays;
import java.util.List;
import java.util.TreeSet;
import java.util.regex.Matcher;
import java.util.regex.Pattern;

/** Rules of LANGUAGE.md that can be seen in the source's text or in the class itself. */
public final class LanguageTest {
    private static int wrong = 0;

    public static void main(String[] args) throws IOException {
        Path root = Path.of(args.length > 0 ? args[0] : ".");
        String source = Files.readString(root.resolve("src/main/java/SumsInWords.java"));
        String code = source.replaceAll("(?s)/\\*.*?\\*/", "").replaceAll("//[^\n]*", "");
        String bare = code.replaceAll("\"[^\"\n]*\"", "\"\"").replaceAll("'[^'\n]'", "' '");
        face();
        words(bare);
        library(bare);
        sizes(code);
        room();
        if (!source.matches("\\p{ASCII}*")) {
            fault(4, "a sign beyond 127");
        }
        System.out.println(wrong == 0 ? "the rules are kept" : wrong + " rules are not kept");
        if (wrong != 0) {
            System.exit(1);
        }
    }

    private static void fault(int rule, String what) {
        wrong++;
        System.out.println("rule " + rule + ": " + what);
    }

    private static void face() {
        String names = "name thing span ways choose sets set tells sheet on write written take feed end read fault"
            + " got count image again";
        TreeSet<String> due = new TreeSet<>(Arrays.asList(names.split(" ")));
        TreeSet<String> seen = new TreeSet<>();
        List<Member> members = new ArrayList<>();
        members.addAll(Arrays.asList(SumsInWords.class.getDeclaredMethods()));
        members.addAll(Arrays.asList(SumsInWords.class.getDeclaredFields()));
        members.addAll(Arrays.asList(SumsInWords.class.getDeclaredConstructors()));
        for (Member member : members) {
            if (Modifier.isPublic(member.getModifiers())) {
                boolean known = member instanceof Method && due.contains(member.getName()) && seen.add(member.getName())
                    || member instanceof Field && member.getName().equals("NONE")
                    || member instanceof Constructor<?> made && made.getParameterCount() == 0;
                if (!known) {
                    fault(1, "public " + member);
                }
            } else if (!Modifier.isPrivate(member.getModifiers()) && !member.isSynthetic()) {
                fault(1, "not private: " + member);
            }
        }
        if (!seen.equals(due) || !Modifier.isFinal(SumsInWords.class.getModifiers())) {
            fault(1, "the face is " + seen);
        }
        for (Class<?> inside : SumsInWords.class.getDeclaredClasses()) {
            if (!Modifier.isStatic(inside.getModifiers()) || Modifier.isPublic(inside.getModifiers())) {
                fault(2, "class " + inside);
            }
            if (inside.getDeclaredFields().length > 22) {
                fault(11, "many fields in " + inside);
            }
            for (Method method : inside.getDeclaredMethods()) {
                if (due.contains(method.getName())) {
                    fault(1, "a method inside with a public one's name: " + method);
                }
                if (method.getParameterCount() > 7) {
                    fault(11, "many parameters: " + method);
                }
            }
        }
        if (SumsInWords.class.getDeclaredClasses().length > 11) {
            fault(11, "many classes");
        }
    }

    private static void words(String bare) {
        String banned = "throw throws try catch synchronized assert package hashCode toString System\\.out getClass"
            + " Exception Object var";
        for (String word : banned.split(" ")) {
            if (Pattern.compile("\\b" + word + "\\b").matcher(bare).find()) {
                fault(6, word);
            }
        }
        if (bare.contains("->") || bare.contains("::")) {
            fault(2, "a lambda or a method reference");
        }
        if (Pattern.compile("\"\"\\s*\\+|\\+\\s*\"\"").matcher(bare).find()) {
            fault(10, "texts joined by +");
        }
        Matcher imports = Pattern.compile("import ([^;]*);").matcher(bare);
        while (imports.find()) {
            if (!imports.group(1).matches("java\\.util\\.(Arrays|ArrayList|List|Iterator)")) {
                fault(4, "import " + imports.group(1));
            }
        }
        Matcher fields = Pattern.compile("static (?!final)[\\w\\[\\]<>]+ \\w+( =|;)").matcher(bare);
        while (fields.find()) {
            fault(5, fields.group());
        }
    }

    private static void library(String bare) {
        Matcher calls = Pattern.compile("\\b(Math|Arrays|System|Integer|Long|String|List)\\.(\\w+)").matcher(bare);
        while (calls.find()) {
            String call = calls.group(1) + "." + calls.group(2);
            if (!call.matches("Math\\.(max|min|abs|floorDiv|floorMod)|Arrays\\.(fill|copyOf|copyOfRange)"
                + "|System\\.arraycopy|(Integer|Long)\\.(compare|max|min|bitCount)|List\\.of")) {
                fault(4, call);
            }
        }
    }

    /** An object makes its own rows and those of its three images, some 16 KB, and its calls nothing more. */
    private static void room() {
        com.sun.management.ThreadMXBean made = (com.sun.management.ThreadMXBean) ManagementFactory.getThreadMXBean();
        long least = Long.MAX_VALUE;
        for (int times = 0; times < 3; times++) {
            long before = made.getThreadAllocatedBytes(Thread.currentThread().getId());
            dearestCalls();
            least = Math.min(least, made.getThreadAllocatedBytes(Thread.currentThread().getId()) - before);
        }
        if (least > 40000) {
            fault(12, least + " bytes made by one object");
        }
    }

    private static void dearestCalls() {
        SumsInWords x = new SumsInWords();
        x.name(0x6262);
        x.name(0x6363);
        x.thing(0x6464, 90);
        x.thing(0x6565, 90);
        for (int round = 0; round < 42; round++) {
            x.choose(7, 0, 0, 0, 1, 1);
            x.sets();
            x.set(100, 4);
            x.tells(100, 4);
            x.sheet(20);
            x.write(100, false, 3);
            x.take();
            x.read();
            x.image(round % 3);
            x.again(round % 3);
            x.feed(0x686f7720, 0x6d616e79, 0x20206464, 0, 0);
            x.read();
        }
    }

    private static void sizes(String code) {
        Matcher methods = Pattern.compile("(?m)^( +)[\\w\\[\\] ]+\\([^;{}]*\\) \\{\n(.*\n)*?\\1\\}").matcher(code);
        int found = 0;
        while (methods.find()) {
            found++;
            if (methods.group().split("\n").length > 60) {
                fault(11, "long: " + methods.group().split("\n")[0]);
            }
        }
        if (found < 50) {
            fault(11, "only " + found + " methods found");
        }
    }
}
