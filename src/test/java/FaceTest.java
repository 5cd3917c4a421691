import java.lang.reflect.Field;
import java.lang.reflect.Method;
import java.lang.reflect.Modifier;
import java.nio.file.Files;
import java.nio.file.Path;
import java.util.Arrays;
import java.util.List;
import java.util.Set;
import java.util.TreeSet;
import java.util.regex.Matcher;
import java.util.regex.Pattern;

/** The public face is the document's, no more and no less; the source has nothing that LANGUAGE.md rules out. */
public final class FaceTest {
    private static final Due DUE = new Due();
    private static final String[] CALLS = {
        "int weight 2", "int set 2", "int say 1", "int wipe 0", "int fault 0", "int before 0", "int number 1",
        "int hear 2", "int forget 0", "long likeness 1", "long thinks 2", "int takes 0", "long step 3", "long book 5",
        "long after 4", "int leads 1", "int lasts 1", "long lives 5", "int often 3", "int chosen 2", "long back 4",
        "int guess 3", "int told 1",
    };
    private static final String[] CONSTANTS = {
        "int UNKNOWN -1", "int OUTSIDE -2", "int STATE -3", "int FULL -4", "int NO -5", "int NONE -6",
        "long LOST -1000000000000000000",
    };
    private static final String[] RULED_OUT = {
        "\\bthrow\\b", "\\bthrows\\b", "\\btry\\b", "\\bcatch\\b", "\\bsynchronized\\b", "\\bassert\\b", "->", "::",
        "\\w+Exact\\b", "\\bstatic\\s*\\{", "\\bpackage\\b", "\\bObject\\b", "\\bvar\\b", "\\bnative\\b", "\\bSystem\\.(?!arraycopy)",
        "\\bMath\\.random\\b", "\\bthread", "\\bprotected\\b", "@",
    };

    private static final List<String> CONSTANT_TYPES = List.of("int", "long", "boolean", "char", "String",
        "int[]", "long[]", "char[]", "byte[]");

    public static void main(String[] args) throws Exception {
        faceIsTheDocuments();
        insideIsPrivate();
        sourceKeepsToTheRules();
        DUE.end();
    }

    private static void faceIsTheDocuments() throws Exception {
        Class<?> face = TaughtTongues.class;
        DUE.is("public and final", Modifier.PUBLIC | Modifier.FINAL, face.getModifiers());
        DUE.is("constructors", 1, face.getDeclaredConstructors().length);
        DUE.is("a public constructor without arguments", 0, face.getConstructors()[0].getParameterCount());
        Set<String> calls = new TreeSet<>();
        for (Method method : face.getDeclaredMethods()) {
            if (!Modifier.isPrivate(method.getModifiers())) {
                calls.add(method.getReturnType() + " " + method.getName() + " " + method.getParameterCount());
                DUE.holds(method + " takes ints", Arrays.stream(method.getParameterTypes()).allMatch(type -> type == int.class));
            }
        }
        DUE.holds("calls are " + calls, calls.equals(new TreeSet<>(Arrays.asList(CALLS))));
        Set<String> constants = new TreeSet<>();
        for (Field field : face.getDeclaredFields()) {
            if (!Modifier.isPrivate(field.getModifiers())) {
                constants.add(field.getType() + " " + field.getName() + " " + field.get(null));
                DUE.is(field.getName(), Modifier.PUBLIC | Modifier.STATIC | Modifier.FINAL, field.getModifiers());
            }
        }
        DUE.holds("constants are " + constants, constants.equals(new TreeSet<>(Arrays.asList(CONSTANTS))));
    }

    private static void insideIsPrivate() {
        Class<?>[] inside = TaughtTongues.class.getDeclaredClasses();
        DUE.holds("at most twelve classes", inside.length < 12);
        for (Class<?> each : inside) {
            int modifiers = each.getModifiers();
            DUE.holds(each + " is static", Modifier.isStatic(modifiers) || each.isInterface());
            DUE.holds(each + " is not public", !Modifier.isPublic(modifiers) && !Modifier.isProtected(modifiers));
            DUE.is(each + " has no classes inside", 0, each.getDeclaredClasses().length);
            methodsKeepToTheRules(each);
            fieldsKeepToTheRules(each);
        }
        methodsKeepToTheRules(TaughtTongues.class);
        fieldsKeepToTheRules(TaughtTongues.class);
    }

    private static void methodsKeepToTheRules(Class<?> each) {
        for (Method method : each.getDeclaredMethods()) {
            boolean isFace = Arrays.stream(CALLS).anyMatch(call -> call.split(" ")[1].equals(method.getName()));
            DUE.holds(method + ": no other one has a public one's name", Modifier.isPublic(method.getModifiers()) == isFace);
            DUE.holds(method + ": at most seven parameters", method.getParameterCount() <= 7);
        }
    }

    private static void fieldsKeepToTheRules(Class<?> each) {
        int own = 0;
        for (Field field : each.getDeclaredFields()) {
            if (Modifier.isStatic(field.getModifiers())) {
                DUE.holds(field + " is final", Modifier.isFinal(field.getModifiers()));
                DUE.holds(field + " is a constant", CONSTANT_TYPES.contains(field.getType().getSimpleName()));
            } else {
                own++;
            }
        }
        DUE.holds(each + " has at most twenty fields", own <= 20);
    }

    /** By the source's own form: a method's first line and its last have the same indent, and no line between. */
    private static void methodsAreShort(String source) {
        Matcher method = Pattern.compile("(?m)^( +)[\\w\\[\\] ]+\\([^\\n]*\\) \\{\\n((?:\\1 [^\\n]*\\n|\\n)*)\\1\\}").matcher(source);
        int count = 0;
        while (method.find()) {
            long lines = method.group(2).lines().count() + 2;
            DUE.holds(method.group().lines().findFirst().get() + " has " + lines + " lines", lines <= 60);
            count++;
        }
        DUE.holds("methods are found: " + count, count > CALLS.length);
    }

    private static void sourceKeepsToTheRules() throws Exception {
        String source = Files.readString(Path.of("src/main/java/TaughtTongues.java"));
        String code = source.replaceAll("(?s)/\\*.*?\\*/", "").replaceAll("//[^\n]*", "");
        for (String pattern : RULED_OUT) {
            DUE.holds("no " + pattern, code.replaceAll(pattern, "").length() == code.length());
        }
        methodsAreShort(code);
        String imports = code.replaceAll("import java\\.util\\.(Arrays|ArrayList|List|Iterator);", "");
        DUE.holds("no other import", !imports.contains("import "));
        DUE.holds("only plain signs", source.chars().allMatch(sign -> sign == '\n' || sign >= 32 && sign < 127));
    }
}
