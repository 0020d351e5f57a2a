import java.io.IOException;
import java.lang.reflect.Field;
import java.lang.reflect.Method;
import java.lang.reflect.Modifier;
import java.nio.file.Files;
import java.nio.file.Path;
import java.util.ArrayList;
import java.util.Arrays;
import java.util.List;
import java.util.Set;
import java.util.TreeSet;
import java.util.regex.Matcher;
import java.util.regex.Pattern;

/** The class's face as the document tells it, and what of LANGUAGE.md can be seen by a look at the source. */
public final class LanguageTest {
    private static final Path ROOT = Path.of(System.getProperty("project", "."));
    private static final List<String> WRONG = new ArrayList<>();

    private static void must(boolean is, String what) {
        if (!is) {
            WRONG.add(what);
        }
    }

    private static Set<String> promisedFace() throws IOException {
        String document = Files.readString(ROOT.resolve("../shared/DOC.md"));
        String face = document.substring(document.indexOf("```java"), document.indexOf("## Terms"));
        Set<String> promised = new TreeSet<>();
        Matcher line = Pattern.compile("public (int|boolean) (\\w+)\\(([^)]*)\\);").matcher(face);
        while (line.find()) {
            String kinds = line.group(3).replaceAll(" \\w+(,|$)", "$1").replace(" ", "");
            promised.add(line.group(1) + " " + line.group(2) + "(" + kinds + ")");
        }
        return promised;
    }

    private static void face() throws IOException {
        Set<String> found = new TreeSet<>();
        for (Method method : TuneApproval.class.getDeclaredMethods()) {
            if (Modifier.isPublic(method.getModifiers())) {
                String kinds = String.join(",", Arrays.stream(method.getParameterTypes()).map(Class::getName).toList());
                found.add(method.getReturnType() + " " + method.getName() + "(" + kinds + ")");
            } else {
                must(Modifier.isPrivate(method.getModifiers()), method + " is not private");
            }
        }
        must(found.equals(promisedFace()), "the face is not the document's: " + found);
        must(Modifier.isFinal(TuneApproval.class.getModifiers()), "the class is not final");
        must(TuneApproval.class.getDeclaredConstructors().length == 1, "there is more than one constructor");
        for (Field field : TuneApproval.class.getDeclaredFields()) {
            must(Modifier.isPrivate(field.getModifiers()) || field.getName().equals("NONE"), field + " is not private");
        }
    }

    private static void classesInside() {
        List<Class<?>> all = new ArrayList<>(List.of(TuneApproval.class));
        all.addAll(List.of(TuneApproval.class.getDeclaredClasses()));
        must(all.size() <= 12, "more than twelve classes");
        Set<String> publicNames = new TreeSet<>();
        for (Method method : TuneApproval.class.getDeclaredMethods()) {
            if (Modifier.isPublic(method.getModifiers())) {
                publicNames.add(method.getName());
            }
        }
        for (Class<?> one : all) {
            must(one == TuneApproval.class || Modifier.isStatic(one.getModifiers()), one + " is not static");
            int fields = 0;
            for (Field field : one.getDeclaredFields()) {
                boolean isStatic = Modifier.isStatic(field.getModifiers());
                must(!isStatic || Modifier.isFinal(field.getModifiers()), field + " is not final");
                fields += isStatic ? 0 : 1;
            }
            must(fields <= 20, one + " has " + fields + " fields");
            for (Method method : one.getDeclaredMethods()) {
                must(method.getParameterCount() <= 7, method + " takes too many");
                boolean own = one == TuneApproval.class && Modifier.isPublic(method.getModifiers());
                must(own || !publicNames.contains(method.getName()), method + " bears the name of a public one");
            }
        }
    }

    private static void source() throws IOException {
        String text = Files.readString(ROOT.resolve("src/main/java/TuneApproval.java"));
        String code = text.replaceAll("(?s)/\\*.*?\\*/", " ").replaceAll("//[^\n]*", " ");
        String bare = code.replaceAll("\"[^\"\n]*\"", "\"\"");
        String[] ruledOut = {"throw", "try", "catch", "synchronized", "assert", "import", "package", "finally", "var",
            "protected", "volatile", "double", "float", "Random", "System\\.(?!arraycopy)\\w+", "\\w+Exact", "Object"};
        for (String word : ruledOut) {
            must(!Pattern.compile("\\b" + word + "\\b").matcher(bare).find(), "the source has " + word);
        }
        for (String sign : new String[] {"->", "::", "@", "static {"}) {
            must(!bare.contains(sign), "the source has " + sign);
        }
        must(!Pattern.compile("\"\"\\s*\\+|\\+\\s*\"\"").matcher(bare).find(), "texts are joined by +");
        must(!Pattern.compile("while\\s*\\(").matcher(bare).find(), "a loop has no counter");
        int from = 0;
        String[] lines = code.split("\n");
        for (int i = 0; i < lines.length; i++) {
            if (lines[i].matches("\\s+(public|private|static|int|boolean|void|long|Lane) .*\\) \\{")) {
                from = i;
            }
            boolean ends = lines[i].matches("( {4}| {8})\\}");
            must(!ends || i - from < 60, "a method before line " + (i + 1) + " is too long");
        }
    }

    public static void main(String[] args) throws IOException {
        face();
        classesInside();
        source();
        WRONG.forEach(System.out::println);
        System.out.println("LanguageTest: " + WRONG.size() + " wrong");
        if (!WRONG.isEmpty()) {
            System.exit(1);
        }
    }
}
