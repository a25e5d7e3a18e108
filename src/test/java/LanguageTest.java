import java.io.PrintWriter;
import java.io.StringWriter;
import java.lang.reflect.Constructor;
import java.lang.reflect.Field;
import java.lang.reflect.Method;
import java.lang.reflect.Modifier;
import java.nio.charset.StandardCharsets;
import java.nio.file.Files;
import java.nio.file.Path;
import java.util.ArrayList;
import java.util.Arrays;
import java.util.HashMap;
import java.util.HashSet;
import java.util.List;
import java.util.Map;
import java.util.Set;
import java.util.TreeSet;
import java.util.regex.Matcher;
import java.util.regex.Pattern;
import java.util.spi.ToolProvider;

/** That the file keeps to the rules of LANGUAGE.md, as far as a test can see it. */
public final class LanguageTest {
    private static final String FACE = "public TwoSeek(); public int status(); public long top(); public long bottom();"
            + " public boolean tray(int,int,int); public boolean write(int,int,long); public long read(int,int);"
            + " public boolean pour(int,int,int,int,int); public int feed(int,int,int,int,int); public int town(int);"
            + " public int fault(int); public int many(int); public int place(int,int); public boolean shut(int,boolean);"
            + " public boolean marks(boolean); public int distance(int,int); public int clock(int,int,boolean);"
            + " public int sight(int); public int when(int,int,int,int); public int judge(int,int,int);"
            + " public boolean mean(int,int); public int worst(int,int); public int same(int,int); public int agreed(int);"
            + " public int step(int,int); public int alike(int); public int alikeStep(int); public int parted(int,int,int);"
            + " public boolean drawn(int,int,int,int,int); public int bestDrawn(int,int,int,int);"
            + " public int three(int,int,int,int); public boolean value(int,int,int,int,int,int,int);"
            + " public boolean chance(int); public int door(int,int); public int wander(int,int,int);";
    private static final Set<String> LIBRARY = Set.of("java/lang/Object.\"<init>\"", "java/lang/Math.min",
            "java/lang/Math.max", "java/lang/Integer.bitCount", "java/lang/Long.compare");
    private static final Pattern CALL = Pattern.compile(
            "invoke(?:virtual|special|static)\\s+#\\d+\\s+// Method (?:([\\w/$]+)\\.)?(\"<init>\"|\\w+):");
    private static final Pattern HEAD = Pattern.compile(
            "^  (?:(?:public|private|protected|static|final) )*(?:[\\w.$\\[\\]]+ )?([\\w.$]+)\\(([^)]*)\\);$");

    private static final Map<String, Set<String>> calls = new HashMap<>();

    public static void main(String[] args) throws Exception {
        List<Class<?>> classes = new ArrayList<>();
        classes.add(TwoSeek.class);
        classes.addAll(Arrays.asList(TwoSeek.class.getDeclaredClasses()));
        face();
        for (Class<?> c : classes) {
            members(c);
            bytecode(c);
        }
        Seek.due("at most 12 classes", classes.size() <= 12, true);
        source();
        depth();
        Seek.end();
    }

    private static void face() {
        Set<String> due = new TreeSet<>();
        for (String s : FACE.split(";")) {
            due.add(s.trim());
        }
        Set<String> got = new TreeSet<>();
        for (Constructor<?> c : TwoSeek.class.getDeclaredConstructors()) {
            got.add(c.toString());
        }
        Set<String> publics = new HashSet<>();
        for (Method m : TwoSeek.class.getDeclaredMethods()) {
            if (!Modifier.isPrivate(m.getModifiers())) {
                got.add(m.toString().replace("TwoSeek.", ""));
                publics.add(m.getName());
            }
        }
        Seek.due("the face is the document's", got.equals(due), true);
        for (Class<?> c : TwoSeek.class.getDeclaredClasses()) {
            for (Method m : c.getDeclaredMethods()) {
                Seek.due(c + " " + m.getName() + " bears a name of the face", publics.contains(m.getName()), false);
            }
            Seek.due(c + " is static", Modifier.isStatic(c.getModifiers()), true);
            Seek.due(c + " is public", Modifier.isPublic(c.getModifiers()), false);
        }
        for (Method m : TwoSeek.class.getDeclaredMethods()) {
            boolean hides = Modifier.isPrivate(m.getModifiers()) && publics.contains(m.getName());
            Seek.due("private " + m.getName() + " bears a name of the face", hides, false);
        }
        for (Field f : TwoSeek.class.getDeclaredFields()) {
            boolean isNone = f.getName().equals("NONE");
            Seek.due(f + " is private", Modifier.isPrivate(f.getModifiers()), !isNone);
            Seek.due(f + " is public", Modifier.isPublic(f.getModifiers()), isNone);
        }
        Seek.due("the class is final", Modifier.isFinal(TwoSeek.class.getModifiers()), true);
    }

    private static void members(Class<?> c) {
        int fields = 0;
        for (Field f : c.getDeclaredFields()) {
            if (Modifier.isStatic(f.getModifiers())) {
                Seek.due(f + " is a constant", Modifier.isFinal(f.getModifiers()) && f.getType().isPrimitive(), true);
            } else {
                fields++;
            }
        }
        Seek.due(c + " has at most 20 fields", fields <= 20, true);
        for (Method m : c.getDeclaredMethods()) {
            Seek.due(m + " takes at most 7", m.getParameterCount() <= 7, true);
        }
    }

    private static void bytecode(Class<?> c) {
        StringWriter out = new StringWriter();
        String where = System.getProperty("java.class.path").split(":")[0] + "/" + c.getName() + ".class";
        ToolProvider javap = ToolProvider.findFirst("javap").orElseThrow();
        int code = javap.run(new PrintWriter(out), new PrintWriter(out), "-c", "-p", where);
        Seek.due("javap reads " + where, code, 0);
        String own = c.getName();
        String method = "";
        for (String line : out.toString().split("\n")) {
            Matcher head = HEAD.matcher(line);
            if (head.matches()) {
                String name = head.group(1).equals(own.replace('$', '.')) || head.group(1).equals(own)
                        ? "\"<init>\"" : head.group(1);
                method = own + "." + name;
                calls.putIfAbsent(method, new HashSet<>());
                continue;
            }
            boolean makes = Pattern.compile(": (new|newarray|anewarray|multianewarray)\\b").matcher(line).find();
            Seek.due(method + " makes something: " + line, makes && !method.endsWith("\"<init>\""), false);
            boolean odd = Pattern.compile(": (athrow|monitorenter|invokedynamic|invokeinterface|checkcast)\\b|Exception table")
                    .matcher(line).find();
            Seek.due(method + " does what it must not: " + line, odd, false);
            Matcher call = CALL.matcher(line);
            if (call.find()) {
                String of = call.group(1) == null ? own : call.group(1);
                if (of.startsWith("java/")) {
                    Seek.due(of + "." + call.group(2) + " is in the library", LIBRARY.contains(of + "." + call.group(2)), true);
                }
                calls.get(method).add(of + "." + call.group(2));
            }
        }
    }

    private static int depthOf(String method, Set<String> open) {
        Seek.due(method + " is open already", open.contains(method), false);
        if (open.contains(method)) {
            return 1000;
        }
        open.add(method);
        int deepest = 0;
        for (String next : calls.getOrDefault(method, Set.of())) {
            deepest = Math.max(deepest, depthOf(next, open));
        }
        open.remove(method);
        return 1 + deepest;
    }

    private static void depth() {
        for (Method m : TwoSeek.class.getDeclaredMethods()) {
            int deep = depthOf("TwoSeek." + m.getName(), new HashSet<>());
            System.out.print(m.getName() + " " + deep + " deep; ");
            Seek.due(m.getName() + " is " + deep + " calls deep", deep <= 8, true);
        }
        System.out.println();
    }

    private static void source() throws Exception {
        String text = Files.readString(Path.of("src/main/java/TwoSeek.java"), StandardCharsets.ISO_8859_1);
        for (int i = 0; i < text.length(); i++) {
            char sign = text.charAt(i);
            Seek.due("a sign " + (int) sign, sign == '\n' || sign >= 32 && sign < 127, true);
        }
        String bare = text.replaceAll("(?s)/\\*.*?\\*/", "").replaceAll("//[^\n]*", "");
        String[] odd = {"throw", "throws", "try", "catch", "synchronized", "assert", "import", "package", "->", "::",
            "equals", "hashCode", "toString", "System", "float", "double", "\"", "MAX_VALUE", "@"};
        for (String word : odd) {
            String sign = Character.isLetter(word.charAt(0)) ? "\\b" : "";
            boolean there = Pattern.compile(sign + Pattern.quote(word) + sign).matcher(bare).find();
            Seek.due("the file has " + word, there, false);
        }
        int from = 0;
        String name = "";
        String[] lines = text.split("\n");
        for (int i = 0; i < lines.length; i++) {
            boolean opens = lines[i].matches("( {4}| {8})[\\w].*\\) \\{");
            if (opens) {
                from = i;
                name = lines[i].trim();
            }
            if (lines[i].matches("( {4}| {8})\\}") && !name.isEmpty()) {
                Seek.due(name + " has " + (i - from + 1) + " lines", i - from + 1 <= 60, true);
                name = "";
            }
        }
    }
}
