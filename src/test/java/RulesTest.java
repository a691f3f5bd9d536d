import java.io.ByteArrayOutputStream;
import java.io.IOException;
import java.io.PrintStream;
import java.lang.reflect.Field;
import java.lang.reflect.Method;
import java.lang.reflect.Modifier;
import java.net.URISyntaxException;
import java.nio.file.Files;
import java.nio.file.Path;
import java.util.ArrayList;
import java.util.LinkedHashMap;
import java.util.LinkedHashSet;
import java.util.List;
import java.util.Map;
import java.util.Set;
import java.util.TreeMap;
import java.util.TreeSet;
import java.util.regex.Matcher;
import java.util.regex.Pattern;
import java.util.spi.ToolProvider;
import java.util.stream.Stream;

/** The rules of LANGUAGE.md that a program can look for: in the source's text, the classes and their bytecode. */
public final class RulesTest {
    private static final String LIBRARY_CALLS = "java/lang/(Object|RuntimeException)\\.\"<init>\".*"
            + "|java/lang/String\\.(length|charAt):.*"
            + "|java/lang/Math\\.(min|max|floorMod):\\(II\\)I"
            + "|java/lang/System\\.arraycopy:.*"
            + "|java/(lang/IndexOutOfBoundsException|util/NoSuchElementException)\\.\"<init>\":\\(Ljava/lang/String;\\)V";

    public static void main(String[] args) throws IOException, URISyntaxException {
        Path root = Path.of(args[0]);
        String source = bare(Files.readString(root.resolve("src/main/java/BeatQueues.java")));
        words(source);
        methodLengths(source);
        face(Files.readString(root.resolve("../shared/DOC.md")));
        classes();
        bytecode();
        Check.end();
    }

    /** Without comments and without what stands in quotes. */
    private static String bare(String source) {
        Matcher m = Pattern.compile("/\\*.*?\\*/|//[^\\n]*|\"[^\"\\n]*\"|'[^'\\n]+'", Pattern.DOTALL).matcher(source);
        return m.replaceAll(found -> found.group().replaceAll("[^\\n]", ""));
    }

    private static void none(String source, String pattern) {
        Matcher m = Pattern.compile(pattern).matcher(source);
        boolean found = m.find();
        Check.holds("no " + pattern + (found ? ", but: " + m.group() : ""), !found);
    }

    private static void words(String source) {
        for (String word : new String[] {"try", "catch", "finally", "synchronized", "assert", "package", "volatile",
            "transient", "native", "strictfp", "double", "float", "var", "protected"}) {
            none(source, "\\b" + word + "\\b");
        }
        for (String sign : new String[] {"->", "::", "@", "\\? extends", "java\\.util\\.(?!NoSuchElementException;)",
            "static \\{", "while \\(true\\)", "for \\(;", "\\.equals\\b", "hashCode", "toString"}) {
            none(source, sign);
        }
        Check.due("throws, both of them in out()", counted(source, "\\bthrow\\b"), 2);
    }

    private static void methodLengths(String source) {
        String[] lines = source.split("\n", -1);
        int longest = 0;
        for (int i = 0; i < lines.length; i++) {
            Matcher m = Pattern.compile("^( +)[^=;]*\\)( throws [^{]*)? \\{$").matcher(lines[i]);
            if (m.find() && (m.group(1).length() == 4 || m.group(1).length() == 8) && !lines[i].trim().startsWith("if")) {
                int end = i;
                while (!lines[end].startsWith(m.group(1) + "}")) {
                    end++;
                }
                longest = Math.max(longest, end - i + 1);
            }
        }
        Check.holds("methods have at most 60 lines: " + longest, longest > 10 && longest <= 60);
    }

    private static void face(String document) {
        Set<String> want = new TreeSet<>();
        Matcher m = Pattern.compile("public int (\\w+)\\(([^)]*)\\)").matcher(document);
        while (m.find()) {
            want.add(m.group(1) + "/" + (m.group(2).isBlank() ? 0 : m.group(2).split(",").length));
        }
        Set<String> got = new TreeSet<>();
        Set<String> names = new TreeSet<>();
        for (Method method : BeatQueues.class.getDeclaredMethods()) {
            if (Modifier.isPublic(method.getModifiers())) {
                got.add(method.getName() + "/" + method.getParameterCount());
                names.add(method.getName());
                Check.holds(method + " answers an int", method.getReturnType() == int.class);
            } else if (!method.isSynthetic()) {
                Check.holds(method + " is private", Modifier.isPrivate(method.getModifiers()));
            }
        }
        Check.holds("the document's face: " + want + " and " + got, want.equals(got) && want.size() == 41);
        Check.holds("public and final", Modifier.isFinal(BeatQueues.class.getModifiers()));
        Check.due("one constructor", BeatQueues.class.getDeclaredConstructors().length, 1);
        for (Class<?> c : own()) {
            for (Method method : c.getDeclaredMethods()) {
                boolean isOfFace = c == BeatQueues.class && Modifier.isPublic(method.getModifiers());
                Check.holds(method + " bears no name of the face", isOfFace || !names.contains(method.getName()));
            }
        }
    }

    private static List<Class<?>> own() {
        List<Class<?>> all = new ArrayList<>(List.of(BeatQueues.class));
        all.addAll(List.of(BeatQueues.class.getDeclaredClasses()));
        return all;
    }

    private static void classes() {
        Check.holds("at most twelve classes", own().size() <= 12);
        for (Class<?> c : own()) {
            int fields = 0;
            for (Field f : c.getDeclaredFields()) {
                int how = f.getModifiers();
                fields += Modifier.isStatic(how) ? 0 : 1;
                Check.holds(f + ": static is final", !Modifier.isStatic(how) || Modifier.isFinal(how));
                Check.holds(f + ": a static one is a number", !Modifier.isStatic(how) || f.getType() == int.class);
                Check.holds(f + ": of a type that rule 3 names", isPlainType(f.getType()));
                boolean isOutside = c == BeatQueues.class && !f.getName().equals("NONE");
                Check.holds(f + " is private", !isOutside || Modifier.isPrivate(how));
            }
            Check.holds(c + ": at most twenty fields", fields <= 20);
            if (c != BeatQueues.class) {
                int how = c.getModifiers();
                Check.holds(c + " is static and not public", Modifier.isStatic(how) && !Modifier.isPublic(how));
            }
            for (Method method : c.getDeclaredMethods()) {
                Check.holds(method + ": at most seven parameters", method.getParameterCount() <= 7);
            }
        }
    }

    /** Numbers, own classes, rows of these, and rows of rows of numbers. */
    private static boolean isPlainType(Class<?> type) {
        boolean isRow = type.isArray();
        Class<?> of = isRow ? type.getComponentType() : type;
        if (isRow && of.isArray()) {
            return of.getComponentType().isPrimitive();
        }
        return of.isPrimitive() || own().contains(of) || !isRow && of == String.class;
    }

    // ---- who calls whom, by javap ----

    private static void bytecode() throws IOException, URISyntaxException {
        Path place = Path.of(BeatQueues.class.getProtectionDomain().getCodeSource().getLocation().toURI());
        Map<String, Set<String>> calls = new LinkedHashMap<>();
        Map<String, String> above = new LinkedHashMap<>();
        int files = 0;
        try (Stream<Path> all = Files.list(place)) {
            for (Path file : all.filter(RulesTest::isOfTheClass).sorted().toList()) {
                String listing = javap(file);
                read(listing, calls, above);
                instructions(listing);
                files++;
            }
        }
        Check.due("no class without a name, no local one", files, own().size());
        constructors(calls);
        for (Set<String> each : calls.values()) {
            for (String call : each) {
                boolean isOwn = call.startsWith("BeatQueues");
                Check.holds("a call of the library: " + call, isOwn || call.matches(LIBRARY_CALLS));
            }
        }
        Map<String, Integer> depths = new TreeMap<>();
        for (String method : calls.keySet()) {
            int deep = depth(method, calls, above, depths, new LinkedHashSet<>());
            Check.holds("calls go at most eight deep: " + method + " " + deep, deep <= 8);
        }
    }

    /** No joining of texts by +, no lambda, no lock; casts of objects only behind instanceof; thrown by out() alone. */
    private static void instructions(String listing) {
        for (String method : listing.split("\n\n")) {
            none(method, "invokedynamic|monitorenter|invokeinterface|\\bjsr\\b");
            Check.due("casts are behind instanceof: " + method.lines().findFirst(), counted(method, "checkcast"),
                    counted(method, ": instanceof"));
            Check.due("thrown by out() alone: " + method.lines().findFirst(), counted(method, "athrow"),
                    method.contains("int out(") ? 2 : 0);
            none(method, "(getstatic|putstatic)");
            none(method, ": [df](add|sub|mul|div|rem|neg|cmp[lg]|const|load|store)");
        }
    }

    private static int counted(String text, String pattern) {
        Matcher m = Pattern.compile(pattern).matcher(text);
        int found = 0;
        while (m.find()) {
            found++;
        }
        return found;
    }

    /** A constructor calls nothing that another class could override, nor do those that it calls. */
    private static void constructors(Map<String, Set<String>> calls) {
        Set<String> open = new TreeSet<>();
        for (Class<?> c : own()) {
            for (Method m : c.getDeclaredMethods()) {
                int how = m.getModifiers();
                boolean isFixed = Modifier.isPrivate(how) || Modifier.isFinal(how) || Modifier.isStatic(how)
                        || Modifier.isFinal(c.getModifiers());
                if (!isFixed) {
                    open.add(c.getName() + "." + m.getName());
                }
            }
        }
        Check.holds("some can be overridden", open.contains("BeatQueues$Machine.enter"));
        Set<String> seen = new LinkedHashSet<>();
        for (String method : calls.keySet()) {
            if (method.contains("<init>")) {
                follow(method, calls, seen);
            }
        }
        for (String method : seen) {
            Check.holds("called by a constructor: " + method, !open.contains(method.replaceAll(":.*", "")));
        }
    }

    private static void follow(String method, Map<String, Set<String>> calls, Set<String> seen) {
        if (seen.add(method)) {
            for (String call : calls.getOrDefault(method, Set.of())) {
                follow(call, calls, seen);
            }
        }
    }

    private static boolean isOfTheClass(Path file) {
        return file.getFileName().toString().matches("BeatQueues(\\$.*)?\\.class");
    }

    private static String javap(Path file) {
        ByteArrayOutputStream bytes = new ByteArrayOutputStream();
        PrintStream to = new PrintStream(bytes);
        ToolProvider tool = ToolProvider.findFirst("javap").orElseThrow();
        Check.due("javap", tool.run(to, to, "-p", "-c", "-s", file.toString()), 0);
        return bytes.toString();
    }

    private static void read(String listing, Map<String, Set<String>> calls, Map<String, String> above) {
        Matcher name = Pattern.compile("class (BeatQueues\\S*)(?: extends (\\S+))?").matcher(listing);
        Check.holds("a class", name.find());
        String owner = name.group(1);
        if (name.group(2) != null) {
            above.put(owner, name.group(2));
        }
        String method = "";
        String last = "";
        for (String line : listing.split("\n")) {
            Matcher descriptor = Pattern.compile("^ +descriptor: (\\(.*)").matcher(line);
            Matcher call = Pattern.compile("invoke\\w+ .*// (?:Interface)?Method (\\S+)").matcher(line);
            Matcher made = Pattern.compile("\\d+: (?:new |newarray|anewarray|multianewarray).*").matcher(line);
            if (descriptor.find()) {
                Matcher named = Pattern.compile("([\\w$.]+)\\(").matcher(last);
                String simple = named.find() ? named.group(1) : "?";
                method = owner + "." + (simple.equals(owner) ? "\"<init>\"" : simple) + ":" + descriptor.group(1);
                calls.put(method, new LinkedHashSet<>());
            } else if (call.find()) {
                String to = call.group(1);
                calls.get(method).add(to.matches("[\\w$/]+\\..*") ? to : owner + "." + to);
            } else if (made.find()) {
                boolean isFine = method.contains("<init>") || method.startsWith("BeatQueues.out:");
                Check.holds(method + " makes: " + line.trim(), isFine);
            }
            last = line;
        }
    }

    /** How many methods stand open at once below and with this one; a method that comes back to itself is refused. */
    private static int depth(String method, Map<String, Set<String>> calls, Map<String, String> above,
            Map<String, Integer> depths, Set<String> open) {
        Check.holds("no recursion: " + method, open.add(method));
        if (!depths.containsKey(method) && open.size() < 50) {
            int most = 0;
            for (String call : calls.getOrDefault(method, Set.of())) {
                for (String target : targets(call, calls, above)) {
                    most = Math.max(most, depth(target, calls, above, depths, open));
                }
            }
            depths.put(method, most + 1);
        }
        open.remove(method);
        return depths.getOrDefault(method, 1);
    }

    /** A method of its own class, that which it inherits, and all that stand in for it below. */
    private static Set<String> targets(String call, Map<String, Set<String>> calls, Map<String, String> above) {
        Set<String> found = new LinkedHashSet<>();
        int dot = call.indexOf('.');
        String rest = call.substring(dot);
        for (String c = call.substring(0, dot); c != null; c = above.get(c)) {
            if (calls.containsKey(c + rest)) {
                found.add(c + rest);
                break;
            }
        }
        if (!rest.contains("<init>")) {
            for (Map.Entry<String, String> e : above.entrySet()) {
                if (e.getValue().equals(call.substring(0, dot)) && calls.containsKey(e.getKey() + rest)) {
                    found.add(e.getKey() + rest);
                }
            }
        }
        return found;
    }
}
