import java.io.IOException;
import java.lang.reflect.Constructor;
import java.lang.reflect.Field;
import java.lang.reflect.Method;
import java.lang.reflect.Modifier;
import java.nio.file.Files;
import java.nio.file.Path;
import java.util.Set;
import java.util.TreeSet;
import java.util.regex.Matcher;
import java.util.regex.Pattern;

/** The face of the class is that of the document, and its source keeps to what LANGUAGE.md lets be checked by eye. */
public final class FaceTest {
    private static final Path SOURCE = Path.of("src/main/java/CellrowWorks.java");
    private static final Path DOCUMENT = Path.of("../shared/DOC.md");
    private static final Pattern CALL = Pattern.compile("public (\\w+) (\\w+)\\(([^)]*)\\)(?: throws ([^;]+))?;");
    private static final Pattern OWN_METHOD =
            Pattern.compile("(?m)^ {4,8}(?:private |static |final )*[\\w\\[\\]]+ (\\w+)\\(([^)]*)\\)\\s*\\{");
    private static int wrong;

    private FaceTest() {
    }

    public static void main(String[] args) throws IOException {
        Set<String> face = new TreeSet<>();
        Set<String> names = new TreeSet<>();
        readDocument(face, names);
        compareFace(face);
        checkMembers();
        checkSource(names);
        System.out.println(wrong == 0 ? "the face of " + face.size() + " methods is as told" : wrong + " faults");
        if (wrong > 0) {
            System.exit(1);
        }
    }

    private static void fault(String what) {
        wrong++;
        System.out.println(what);
    }

    private static String told(String type, String name, String parameters, Set<String> exceptions) {
        return type + " " + name + "(" + parameters + ") " + exceptions;
    }

    private static void readDocument(Set<String> face, Set<String> names) throws IOException {
        Matcher call = CALL.matcher(Files.readString(DOCUMENT));
        while (call.find()) {
            Set<String> exceptions = new TreeSet<>();
            if (call.group(4) != null) {
                exceptions.addAll(Set.of(call.group(4).split(", ")));
            }
            face.add(told(call.group(1), call.group(2), call.group(3).replaceAll("(\\w+) \\w+", "$1"), exceptions));
            names.add(call.group(2));
        }
    }

    private static void compareFace(Set<String> face) {
        Set<String> own = new TreeSet<>();
        for (Method method : CellrowWorks.class.getDeclaredMethods()) {
            if (Modifier.isPrivate(method.getModifiers())) {
                continue;
            }
            StringBuilder parameters = new StringBuilder();
            for (Class<?> type : method.getParameterTypes()) {
                parameters.append(parameters.length() > 0 ? ", " : "").append(type.getName());
            }
            Set<String> exceptions = new TreeSet<>();
            for (Class<?> type : method.getExceptionTypes()) {
                exceptions.add(type.getSimpleName());
            }
            own.add(told(method.getReturnType().getName(), method.getName(), parameters.toString(), exceptions));
        }
        if (face.size() != 64 || !face.equals(own)) {
            own.removeAll(face);
            fault("the face differs from the document's: " + own);
        }
    }

    private static void checkMembers() {
        int modifiers = CellrowWorks.class.getModifiers();
        if (!Modifier.isPublic(modifiers) || !Modifier.isFinal(modifiers)) {
            fault("the class is not public and final");
        }
        for (Field field : CellrowWorks.class.getDeclaredFields()) {
            if (!Modifier.isPrivate(field.getModifiers())) {
                fault("the field " + field.getName() + " is not private");
            }
        }
        Constructor<?>[] constructors = CellrowWorks.class.getConstructors();
        if (constructors.length != 1 || constructors[0].getParameterCount() != 0) {
            fault("there is not one constructor without parameters");
        }
        for (Class<?> inside : CellrowWorks.class.getDeclaredClasses()) {
            if (!Modifier.isPrivate(inside.getModifiers()) || !Modifier.isStatic(inside.getModifiers())
                    || inside.getDeclaredFields().length > 24) {
                fault("the class " + inside.getSimpleName() + " is not private and static, or has too many fields");
            }
        }
        if (CellrowWorks.class.getDeclaredClasses().length > 12) {
            fault("too many classes");
        }
    }

    private static void checkSource(Set<String> names) throws IOException {
        String source = Files.readString(SOURCE);
        if (source.chars().anyMatch(c -> c > 126)) {
            fault("a sign beyond 126");
        }
        String code = source.replaceAll("(?s)/\\*.*?\\*/", "").replaceAll("//.*", "").replaceAll("\"[^\"]*\"", "\"\"");
        for (String word : new String[] {"->", "::", "\\bfinally\\b", "\\btry\\b", "\\bcatch\\b", "\\bsynchronized\\b",
            "\\bassert\\b", "\\bthreads?\\b", "Exact\\(", "static \\{", "\\bSystem\\b", "\\bThread\\b", "\\bpackage\\b",
            "\" \\+", "\\+ \"", "import (?!java\\.util\\.NoSuchElementException;)", "Math\\.(?!min|max|abs)",
            "throw new \\w+\\(\\)"}) {
            if (Pattern.compile(word).matcher(code).find()) {
                fault("the source has " + word);
            }
        }
        Matcher method = OWN_METHOD.matcher(code);
        int methods = 0;
        while (method.find()) {
            methods++;
            boolean isFace = code.startsWith("    public ", method.start());
            if (!isFace && names.contains(method.group(1))) {
                fault("a method inside bears the name of a public one: " + method.group(1));
            }
            if (method.group(2).split(",").length > 7) {
                fault("too many parameters: " + method.group(1));
            }
        }
        if (methods < 100) {
            fault("only " + methods + " methods were found in the source");
        }
    }
}
