import java.io.IOException;
import java.io.PrintWriter;
import java.io.StringWriter;
import java.lang.management.ManagementFactory;
import java.lang.reflect.Constructor;
import java.lang.reflect.Field;
import java.lang.reflect.Method;
import java.lang.reflect.Modifier;
import java.nio.file.Files;
import java.nio.file.Path;
import java.util.ArrayList;
import java.util.List;
import java.util.Map;
import java.util.Set;
import java.util.TreeMap;
import java.util.TreeSet;
import java.util.regex.Matcher;
import java.util.regex.Pattern;
import java.util.spi.ToolProvider;

/** What of LANGUAGE.md can be seen in the source, in the class, and in the room that calls need. */
public final class LanguageTest {
    private static final String FACE = "feed5 end1 feast0 rule0 force1 slice2 guest2 turnOne0 take2 lay1 swap2 "
        + "stir1 undo0 ahead3 left0 envy0 needs2 twos1 round1 fair1 begin3 leave2 kept2 game4 pence2 note3 "
        + "ruled1 look2 seed1 flames4 count1 image1 back1";
    private static final String[] BANNED = {"throw", "throws", "try", "catch", "finally", "synchronized", "assert",
        "instanceof", "double", "float", "this\\s*\\)", "equals", "hashCode", "toString", "protected", "volatile",
        "\\w*Exact", "System\\s*\\.\\s*(?!arraycopy)\\w+", "Thread", "Random", "Object", "lambda"};

    private static final List<String> WRONG = new ArrayList<>();

    public static void main(String[] args) throws IOException {
        String source = Files.readString(Path.of("src/main/java/RueCake.java"));
        words(withoutComments(source));
        methodLengths(source);
        face();
        members();
        depths();
        room();
        WRONG.forEach(System.out::println);
        System.out.println(WRONG.isEmpty() ? "the language is kept" : WRONG.size() + " places are not");
        if (!WRONG.isEmpty()) {
            System.exit(1);
        }
    }

    private static void check(boolean fine, String otherwise) {
        if (!fine) {
            WRONG.add(otherwise);
        }
    }

    private static String withoutComments(String source) {
        return source.replaceAll("(?s)/\\*.*?\\*/", " ").replaceAll("//[^\n]*", " ").replaceAll("\"[^\"\n]*\"", "\"\"");
    }

    private static void words(String code) {
        for (String banned : BANNED) {
            Matcher m = Pattern.compile("\\b" + banned + "\\b").matcher(code);
            check(!m.find(), "banned: " + banned);
        }
        check(!code.contains("->") && !code.contains("::"), "a lambda or a method reference");
        check(!code.contains("package "), "a package");
        Matcher imports = Pattern.compile("import\\s+([^;]+);").matcher(code);
        while (imports.find()) {
            check(imports.group(1).equals("java.util.Arrays"), "import of " + imports.group(1));
        }
        check(!Pattern.compile("\"\\s*\\+|\\+\\s*\"").matcher(code).find(), "texts joined by +");
        check(!Pattern.compile("static\\s*\\{").matcher(code).find(), "a static initialiser");
        check(code.chars().allMatch(c -> c < 128), "a sign above 127");
    }

    private static void methodLengths(String source) {
        String[] lines = source.split("\n");
        int start = -1;
        for (int i = 0; i < lines.length; i++) {
            if (lines[i].matches("( {4}| {8})(public|private|static|void|int|boolean|long|Table|Rule|[A-Z]\\w*\\().*\\) \\{")) {
                start = i;
            }
            if (start >= 0 && lines[i].matches("( {4}| {8})\\}")) {
                check(i - start < 60, "a long method at line " + (start + 1));
                start = -1;
            }
        }
    }

    private static void face() {
        Set<String> want = new TreeSet<>(Set.of(FACE.split(" ")));
        Set<String> have = new TreeSet<>();
        for (Method m : RueCake.class.getDeclaredMethods()) {
            if (Modifier.isPublic(m.getModifiers())) {
                have.add(m.getName() + m.getParameterCount());
                check(m.getReturnType() == int.class, "what " + m.getName() + " answers");
            } else {
                check(Modifier.isPrivate(m.getModifiers()), "seen from outside: " + m);
            }
        }
        check(have.equals(want), "the face: " + have);
        check(Modifier.isFinal(RueCake.class.getModifiers()), "not final");
        for (Field f : RueCake.class.getDeclaredFields()) {
            check(Modifier.isPrivate(f.getModifiers()) || f.getName().equals("NONE"), "seen from outside: " + f);
        }
        Constructor<?>[] made = RueCake.class.getDeclaredConstructors();
        check(made.length == 1 && Modifier.isPublic(made[0].getModifiers()), "the constructor");
    }

    private static void members() {
        Set<String> names = new TreeSet<>();
        for (String name : FACE.split(" ")) {
            names.add(name.replaceAll("\\d", ""));
        }
        List<Class<?>> classes = new ArrayList<>(List.of(RueCake.class.getDeclaredClasses()));
        check(classes.size() <= 12, "too many classes: " + classes.size());
        for (Class<?> c : classes) {
            check(Modifier.isStatic(c.getModifiers()), "not static: " + c);
            for (Method m : c.getDeclaredMethods()) {
                check(!names.contains(m.getName()), "bears a name of the face: " + m);
                check(m.getParameterCount() <= 7, "too many parameters: " + m);
            }
        }
        classes.add(RueCake.class);
        for (Class<?> c : classes) {
            int own = 0;
            for (Field f : c.getDeclaredFields()) {
                check(!Modifier.isStatic(f.getModifiers()) || Modifier.isFinal(f.getModifiers()), "not final: " + f);
                own += Modifier.isStatic(f.getModifiers()) ? 0 : 1;
            }
            check(own <= 20, "too many fields: " + c);
        }
    }

    /** Each call of the face opens at most eight methods at once, itself one of them, but for recursion. */
    private static void depths() {
        Map<String, Set<String>> calls = callsInside();
        for (String name : FACE.split(" ")) {
            String method = "RueCake." + name.replaceAll("\\d", "");
            check(calls.containsKey(method), "no calls seen of " + method);
            List<String> longest = longestChain(method, calls, new ArrayList<>());
            check(longest.size() <= 8, "too deep: " + longest);
        }
    }

    private static List<String> longestChain(String method, Map<String, Set<String>> calls, List<String> open) {
        List<String> longest = new ArrayList<>();
        open.add(method);
        for (String next : calls.getOrDefault(method, Set.of())) {
            List<String> chain = open.contains(next) ? List.of() : longestChain(next, calls, open);
            if (chain.size() > longest.size()) {
                longest = chain;
            }
        }
        open.remove(open.size() - 1);
        longest.add(0, method);
        return longest;
    }

    /** Of each method those of the class and the classes inside it that its code calls. */
    private static Map<String, Set<String>> callsInside() {
        Map<String, Set<String>> calls = new TreeMap<>();
        List<Class<?>> classes = new ArrayList<>(List.of(RueCake.class.getDeclaredClasses()));
        classes.add(RueCake.class);
        for (Class<?> c : classes) {
            String method = "";
            for (String line : codeOf(c).split("\\R")) {
                Matcher head = Pattern.compile("^  \\S.*?([\\w$]+)\\([^)]*\\);$").matcher(line);
                Matcher call = Pattern.compile("// Method (?:(RueCake[\\w$]*)\\.)?(\"?[\\w<>]+\"?):").matcher(line);
                if (head.find()) {
                    String name = head.group(1);
                    method = c.getName() + "." + (name.equals(c.getName()) ? "<init>" : name);
                    calls.put(method, new TreeSet<>());
                } else if (call.find() && calls.containsKey(method)) {
                    String whose = call.group(1) == null ? c.getName() : call.group(1);
                    calls.get(method).add(whose + "." + call.group(2).replace("\"", ""));
                }
            }
        }
        return calls;
    }

    private static String codeOf(Class<?> c) {
        StringWriter out = new StringWriter();
        PrintWriter printer = new PrintWriter(out);
        ToolProvider.findFirst("javap").orElseThrow().run(printer, printer,
            "-p", "-c", "-cp", System.getProperty("java.class.path"), c.getName());
        printer.flush();
        return out.toString();
    }

    /** Asking makes no objects at all, so that a run needs no more room than its objects. */
    private static void room() {
        RueCake cake = new RueCake();
        for (String chunk : new String[] {"cake 1 5;slice 0 4;s", "lice 1 3;slice 0 2;s", "lice 2 6;guest 50;gu",
            "est 60;likes 0 0 2  "}) {
            int[] five = new int[5];
            for (int i = 0; i < 20; i++) {
                five[i / 4] = five[i / 4] << 8 | chunk.charAt(i);
            }
            cake.feed(five[0], five[1], five[2], five[3], five[4]);
        }
        check(cake.feast() == 4, "the feast of the room");
        com.sun.management.ThreadMXBean bean = (com.sun.management.ThreadMXBean) ManagementFactory.getThreadMXBean();
        long id = Thread.currentThread().getId();
        askAll(cake);
        long before = bean.getThreadAllocatedBytes(id);
        long empty = bean.getThreadAllocatedBytes(id) - before;
        before = bean.getThreadAllocatedBytes(id);
        askAll(cake);
        long made = bean.getThreadAllocatedBytes(id) - before - empty;
        check(made <= 0, "asking makes objects: " + made + " bytes");
    }

    private static void askAll(RueCake cake) {
        for (int i = 0; i < 3; i++) {
            cake.ahead(0, 100, 0);
            cake.left();
            cake.envy();
            cake.needs(0, 1);
            cake.twos(0);
            cake.round(-1);
            cake.fair(-1);
            cake.begin(0, 60, 0);
            cake.leave(60, 0);
            cake.kept(60, 0);
            cake.game(0, 1, 4, 0);
            cake.pence(100, 0);
            cake.note(3, 1, 1);
            cake.ruled(0);
            cake.look(60, 0);
            cake.flames(10, 60, 50, 0);
            cake.count(8);
            cake.turnOne();
            cake.image(0);
            cake.undo();
            cake.back(0);
        }
    }
}
