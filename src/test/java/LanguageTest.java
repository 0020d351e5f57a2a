import java.io.IOException;
import java.lang.reflect.Array;
import java.lang.reflect.Field;
import java.lang.reflect.Method;
import java.lang.reflect.Modifier;
import java.nio.file.Files;
import java.nio.file.Path;
import java.util.ArrayList;
import java.util.Arrays;
import java.util.List;
import java.util.Map;
import java.util.Set;
import java.util.TreeMap;
import java.util.TreeSet;
import java.util.regex.Matcher;
import java.util.regex.Pattern;

/** The class's face as the document tells it, and what of LANGUAGE.md can be seen by a look at the source. */
public final class LanguageTest {
    private static final Path ROOT = Path.of(System.getProperty("project", "."));
    private static final Set<String> LISTED = Set.of("min", "max", "abs", "bitCount", "arraycopy", "charAt");
    private static final List<String> WRONG = new ArrayList<>();

    private static void must(boolean is, String what) {
        if (!is) {
            WRONG.add(what);
        }
    }

    private static Set<String> promisedFace() throws IOException {
        String document = Files.readString(ROOT.resolve("../shared/DOC.md"));
        String face = document.substring(document.indexOf("```java"), document.indexOf("## Terms"));
        Set<String> promised = new TreeSet<>();
        Matcher line = Pattern.compile("public (int|boolean) (\\w+)\\(([^)]*)\\);").matcher(face);
        while (line.find()) {
            String kinds = line.group(3).replaceAll(" \\w+(,|$)", "$1").replace(" ", "");
            promised.add(line.group(1) + " " + line.group(2) + "(" + kinds + ")");
        }
        return promised;
    }

    private static void face() throws IOException {
        Set<String> found = new TreeSet<>();
        for (Method method : TuneApproval.class.getDeclaredMethods()) {
            if (Modifier.isPublic(method.getModifiers())) {
                String kinds = String.join(",", Arrays.stream(method.getParameterTypes()).map(Class::getName).toList());
                found.add(method.getReturnType() + " " + method.getName() + "(" + kinds + ")");
            } else {
                must(Modifier.isPrivate(method.getModifiers()), method + " is not private");
            }
        }
        must(found.equals(promisedFace()), "the face is not the document's: " + found);
        must(Modifier.isFinal(TuneApproval.class.getModifiers()), "the class is not final");
        must(TuneApproval.class.getDeclaredConstructors().length == 1, "there is more than one constructor");
        for (Field field : TuneApproval.class.getDeclaredFields()) {
            must(Modifier.isPrivate(field.getModifiers()) || field.getName().equals("NONE"), field + " is not private");
        }
    }

    private static void classesInside() {
        List<Class<?>> all = new ArrayList<>(List.of(TuneApproval.class));
        all.addAll(List.of(TuneApproval.class.getDeclaredClasses()));
        must(all.size() <= 12, "more than twelve classes");
        Set<String> publicNames = new TreeSet<>();
        for (Method method : TuneApproval.class.getDeclaredMethods()) {
            if (Modifier.isPublic(method.getModifiers())) {
                publicNames.add(method.getName());
            }
        }
        for (Class<?> one : all) {
            must(one == TuneApproval.class || Modifier.isStatic(one.getModifiers()), one + " is not static");
            int fields = 0;
            for (Field field : one.getDeclaredFields()) {
                boolean isStatic = Modifier.isStatic(field.getModifiers());
                must(!isStatic || Modifier.isFinal(field.getModifiers()), field + " is not final");
                fields += isStatic ? 0 : 1;
            }
            must(fields <= 20, one + " has " + fields + " fields");
            for (Method method : one.getDeclaredMethods()) {
                must(method.getParameterCount() <= 7, method + " takes too many");
                boolean own = one == TuneApproval.class && Modifier.isPublic(method.getModifiers());
                must(own || !publicNames.contains(method.getName()), method + " bears the name of a public one");
            }
        }
    }

    private static String code() throws IOException {
        String text = Files.readString(ROOT.resolve("src/main/java/TuneApproval.java"));
        return text.replaceAll("(?s)/\\*.*?\\*/", " ").replaceAll("//[^\n]*", " ");
    }

    /** The code without what stands in texts and signs, which might look like code. */
    private static String bare(String code) {
        return code.replaceAll("\"[^\"\n]*\"", "\"\"").replaceAll("'[^'\n]'", "0");
    }

    /** Of the library only what LANGUAGE.md lists: functions of Math and Integer, arraycopy, charAt. */
    private static void library() throws IOException {
        String bare = bare(code());
        Set<String> own = new TreeSet<>(Set.of("TuneApproval", "String"));
        for (Class<?> one : TuneApproval.class.getDeclaredClasses()) {
            own.add(one.getSimpleName());
        }
        Matcher name = Pattern.compile("\\b[A-Z]\\w*[a-z]\\w*\\b(\\.\\w+\\(?)?").matcher(bare);
        while (name.find()) {
            String first = name.group().replaceAll("\\..*", "");
            boolean listed = name.group().matches("(Math\\.(min|max|abs)|Integer\\.bitCount|System\\.arraycopy)\\(");
            must(own.contains(first) || listed, "the source has " + name.group());
        }
        Matcher call = Pattern.compile("\\.(\\w+)\\(").matcher(bare);
        Set<String> known = new TreeSet<>(bodies(bare).keySet());
        known.addAll(LISTED);
        while (call.find()) {
            must(known.contains(call.group(1)), "the source calls " + call.group(1));
        }
    }

    /** The methods' names with all that stands in those that bear them. */
    private static Map<String, String> bodies(String bare) {
        Map<String, String> bodies = new TreeMap<>();
        String name = "";
        Pattern head = Pattern.compile("(?: {4}| {8})(?:public |private |static )*\\w+(?:\\[\\])? (\\w+)\\(.*\\) \\{");
        for (String line : bare.split("\n")) {
            Matcher method = head.matcher(line);
            if (method.matches()) {
                name = method.group(1);
                bodies.merge(name, "", String::concat);
            } else if (line.matches("( {4}| {8})\\}")) {
                name = "";
            } else if (!name.isEmpty()) {
                bodies.merge(name, line, String::concat);
            }
        }
        return bodies;
    }

    /** How many calls stand open at the most, the library's too, those that call one another counted as one. */
    private static int depth(String name, Map<String, Set<String>> calls, Map<String, Integer> depths) {
        Integer found = depths.get(name);
        if (found != null) {
            return found;
        }
        depths.put(name, 0);
        int deepest = 0;
        for (String called : calls.get(name)) {
            deepest = Math.max(deepest, depth(called, calls, depths));
        }
        depths.put(name, deepest + 1);
        return deepest + 1;
    }

    private static void depths() throws IOException {
        Set<String> recursive = Set.of("readFormula", "readNot", "readUnit");
        Map<String, Set<String>> calls = new TreeMap<>();
        Map<String, String> bodies = bodies(bare(code()));
        must(bodies.size() > 100, "only " + bodies.size() + " methods were found");
        for (String name : LISTED) {
            must(bodies.put(name, "") == null, name + " is the name of one of the library's");
        }
        for (Map.Entry<String, String> body : bodies.entrySet()) {
            String from = recursive.contains(body.getKey()) ? "readFormula" : body.getKey();
            Matcher call = Pattern.compile("\\b(\\w+)\\(").matcher(body.getValue());
            calls.computeIfAbsent(from, key -> new TreeSet<>());
            while (call.find()) {
                String to = recursive.contains(call.group(1)) ? "readFormula" : call.group(1);
                if (bodies.containsKey(to) && !to.equals(from)) {
                    calls.get(from).add(to);
                }
            }
        }
        for (String name : calls.keySet()) {
            must(!reaches(name, name, calls, new TreeSet<>()), name + " comes back to itself");
            int depth = depth(name, calls, new TreeMap<>());
            must(depth <= 8, "calls go " + depth + " deep from " + name);
        }
    }

    /** Every row is made with the object: no method makes one, and what an object holds stays small. */
    private static void room() throws IOException, IllegalAccessException {
        for (Map.Entry<String, String> body : bodies(bare(code())).entrySet()) {
            must(!Pattern.compile("\\bnew\\b").matcher(body.getValue()).find(), body.getKey() + " makes something");
        }
        int[] held = new int[2];
        count(new TuneApproval(), held);
        must(held[0] <= 100, "an object holds " + held[0] + " objects and arrays");
        must(held[1] <= 11000, "an object holds " + held[1] + " fields and elements");
    }

    private static void count(Object one, int[] held) throws IllegalAccessException {
        held[0]++;
        if (one.getClass().isArray()) {
            held[1] += Array.getLength(one);
            return;
        }
        for (Field field : one.getClass().getDeclaredFields()) {
            if (!Modifier.isStatic(field.getModifiers())) {
                held[1]++;
                field.setAccessible(true);
                if (!field.getType().isPrimitive()) {
                    count(field.get(one), held);
                }
            }
        }
    }

    private static boolean reaches(String from, String to, Map<String, Set<String>> calls, Set<String> seen) {
        for (String called : calls.get(from)) {
            if (called.equals(to) || seen.add(called) && reaches(called, to, calls, seen)) {
                return true;
            }
        }
        return false;
    }

    private static void source() throws IOException {
        String code = code();
        String bare = bare(code);
        String[] ruledOut = {"throw", "try", "catch", "synchronized", "assert", "import", "package", "finally", "var",
            "protected", "volatile", "double", "float", "Random", "System\\.(?!arraycopy)\\w+", "\\w+Exact", "Object"};
        for (String word : ruledOut) {
            must(!Pattern.compile("\\b" + word + "\\b").matcher(bare).find(), "the source has " + word);
        }
        for (String sign : new String[] {"->", "::", "@", "static {"}) {
            must(!bare.contains(sign), "the source has " + sign);
        }
        must(!Pattern.compile("\"\"\\s*\\+|\\+\\s*\"\"").matcher(bare).find(), "texts are joined by +");
        must(!Pattern.compile("while\\s*\\(").matcher(bare).find(), "a loop has no counter");
        int from = 0;
        String[] lines = code.split("\n");
        for (int i = 0; i < lines.length; i++) {
            if (lines[i].matches("\\s+(public|private|static|int|boolean|void|long|Lane) .*\\) \\{")) {
                from = i;
            }
            boolean ends = lines[i].matches("( {4}| {8})\\}");
            must(!ends || i - from < 60, "a method before line " + (i + 1) + " is too long");
        }
    }

    public static void main(String[] args) throws IOException, IllegalAccessException {
        face();
        classesInside();
        source();
        library();
        depths();
        room();
        WRONG.forEach(System.out::println);
        System.out.println("LanguageTest: " + WRONG.size() + " wrong");
        if (!WRONG.isEmpty()) {
            System.exit(1);
        }
    }
}
