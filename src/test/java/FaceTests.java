import java.io.IOException;
import java.lang.reflect.Constructor;
import java.lang.reflect.Field;
import java.lang.reflect.Method;
import java.lang.reflect.Modifier;
import java.nio.file.Files;
import java.nio.file.Path;
import java.util.ArrayList;
import java.util.List;
import java.util.Set;
import java.util.TreeSet;
import java.util.regex.Matcher;
import java.util.regex.Pattern;

/** The class has the members of the document's face and no others, and keeps to what can be seen of LANGUAGE.md. */
public final class FaceTests {
    private static final Path SOURCE = Path.of("src/main/java/CupClaims.java");
    private static final Path DOCUMENT = Path.of("../shared/DOC.md");

    private static final Pattern FACE =
            Pattern.compile("```java\npublic final class CupClaims \\{\n(.*?)\n\\}\n```", Pattern.DOTALL);
    private static final Pattern METHOD = Pattern.compile("public (int|long) (\\w+)\\((.*?)\\);");
    private static final Pattern CONSTANT = Pattern.compile("([A-Z]+) = (-[0-9]+)");

    /** What no line of the class may hold: rules 2 to 6 and 13. */
    private static final String[] OUTSIDE = {
        "->", "::", "\\bimport\\b", "\\bpackage\\b", "\\bcatch\\b", "\\btry\\b", "\\bfinally\\b", "\\bthrow\\b",
        "\\bthrows\\b", "\\bsynchronized\\b", "\\bassert\\b", "\\bnative\\b", "\\bdouble\\b",
        "\\bFloat\\b", "\\bDouble\\b", "\\bSystem\\.(?!arraycopy\\b)", "\\bMath\\.\\w*Exact\\b",
        "\\bMath\\.(?!abs\\b|min\\b|max\\b|floorMod\\b)", "\\bInteger\\.(?!bitCount\\b)", "\\bLong\\b",
        "\\bequals\\b", "\\bhashCode\\b", "\\btoString\\b", "\\bprotected\\b", "\\bThread\\b", "\\bRandom\\b",
    };

    private static final int MOST_CLASSES = 12, MOST_FIELDS = 20, MOST_PARAMETERS = 7, MOST_LINES = 60;

    private static int wrong = 0;

    public static void main(String[] args) throws IOException {
        Matcher found = FACE.matcher(Files.readString(DOCUMENT));
        String face = found.find() ? found.group(1) : "";
        due("methods", methodsOf(face), publicMethods());
        due("constants", constantsOf(face), publicConstants());
        theClassItself();
        membersOfAllClasses(publicMethods());
        List<String> lines = Files.readAllLines(SOURCE);
        nothingOutside(String.join("\n", lines));
        lengthsOfMethods(lines);
        System.out.println(wrong == 0 ? "the face is the document's" : wrong + " faults");
        if (wrong != 0) {
            System.exit(1);
        }
    }

    private static void tell(String fault) {
        wrong++;
        System.out.println(fault);
    }

    private static void due(String what, Set<String> want, Set<String> got) {
        if (!got.equals(want) || want.isEmpty()) {
            tell("the " + what + " are " + got + ", due are " + want);
        }
    }

    // ---- the face

    private static Set<String> methodsOf(String face) {
        Set<String> methods = new TreeSet<>();
        for (Matcher method = METHOD.matcher(face); method.find();) {
            String types = method.group(3).replaceAll("(\\w+) \\w+", "$1").replace(" ", "");
            methods.add(method.group(1) + " " + method.group(2) + "(" + types + ")");
        }
        return methods;
    }

    private static Set<String> publicMethods() {
        Set<String> methods = new TreeSet<>();
        for (Method method : CupClaims.class.getDeclaredMethods()) {
            if (Modifier.isPublic(method.getModifiers())) {
                methods.add(method.toGenericString().replace("CupClaims.", "").replace("public ", ""));
            } else if (!Modifier.isPrivate(method.getModifiers())) {
                tell("neither public nor private: " + method);
            }
        }
        return methods;
    }

    private static Set<String> constantsOf(String face) {
        Set<String> constants = new TreeSet<>();
        for (Matcher constant = CONSTANT.matcher(face); constant.find();) {
            constants.add("public static final int CupClaims." + constant.group(1) + " = " + constant.group(2));
        }
        return constants;
    }

    private static Set<String> publicConstants() {
        Set<String> constants = new TreeSet<>();
        for (Field field : CupClaims.class.getDeclaredFields()) {
            if (Modifier.isPublic(field.getModifiers())) {
                constants.add(field + " = " + numberOf(field));
            } else if (!Modifier.isPrivate(field.getModifiers())) {
                tell("neither public nor private: " + field);
            }
        }
        return constants;
    }

    private static String numberOf(Field field) {
        try {
            return String.valueOf(field.get(null));
        } catch (IllegalAccessException e) {
            return "not to be read";
        }
    }

    private static void theClassItself() {
        Constructor<?>[] constructors = CupClaims.class.getDeclaredConstructors();
        if (constructors.length != 1 || !constructors[0].toString().equals("public CupClaims()")) {
            tell("the constructor is not the document's");
        }
        if (CupClaims.class.getModifiers() != (Modifier.PUBLIC | Modifier.FINAL)) {
            tell("the class is not public and final");
        }
    }

    // ---- LANGUAGE.md, by its rules' numbers

    private static void membersOfAllClasses(Set<String> face) {
        Set<String> names = new TreeSet<>();
        for (String method : face) {
            names.add(method.replaceAll("^\\w+ |\\(.*", ""));
        }
        List<Class<?>> classes = new ArrayList<>(List.of(CupClaims.class));
        classes.addAll(List.of(CupClaims.class.getDeclaredClasses()));
        if (classes.size() > MOST_CLASSES) {
            tell("rule 11: " + classes.size() + " classes");
        }
        for (Class<?> one : classes) {
            if (one != CupClaims.class && (Modifier.isPublic(one.getModifiers()) || !Modifier.isStatic(one.getModifiers()))) {
                tell("rule 1: public or not static: " + one);
            }
            fieldsOf(one);
            methodsOf(one, names);
        }
    }

    private static void fieldsOf(Class<?> one) {
        int fields = 0;
        for (Field field : one.getDeclaredFields()) {
            boolean isStatic = Modifier.isStatic(field.getModifiers());
            fields += isStatic ? 0 : 1;
            if (isStatic && (!Modifier.isFinal(field.getModifiers()) || field.getType() != int.class)) {
                tell("rule 5: static, and not a constant number: " + field);
            }
        }
        if (fields > MOST_FIELDS) {
            tell("rule 11: " + fields + " fields in " + one);
        }
    }

    private static void methodsOf(Class<?> one, Set<String> names) {
        for (Method method : one.getDeclaredMethods()) {
            if (method.getParameterCount() > MOST_PARAMETERS) {
                tell("rule 11: too many parameters: " + method);
            }
            if (Modifier.isPrivate(method.getModifiers()) && names.contains(method.getName())) {
                tell("rule 1: private, with the name of a public one: " + method);
            }
        }
    }

    private static void nothingOutside(String source) {
        String text = source.replaceAll("(?s)/\\*.*?\\*/", "").replaceAll("//.*", "");
        for (String outside : OUTSIDE) {
            Matcher found = Pattern.compile(outside).matcher(text);
            if (found.find()) {
                tell("stands in the class: " + found.group());
            }
        }
    }

    private static void lengthsOfMethods(List<String> lines) {
        int begin = 0;
        String end = "none";
        for (int i = 0; i < lines.size(); i++) {
            String line = lines.get(i);
            if (line.matches(" {4}( {4})?([\\w\\[\\]]+ )*\\w+\\(.*\\) \\{")) {
                begin = i;
                end = line.replaceAll("\\S.*", "}");
            } else if (line.equals(end)) {
                end = "none";
                if (i - begin >= MOST_LINES) {
                    tell("rule 11: " + (i - begin + 1) + " lines: " + lines.get(begin).trim());
                }
            }
        }
    }
}
