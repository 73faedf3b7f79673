import java.io.IOException;
import java.lang.reflect.Constructor;
import java.lang.reflect.Field;
import java.lang.reflect.Method;
import java.lang.reflect.Modifier;
import java.nio.file.Files;
import java.nio.file.Path;
import java.util.Set;
import java.util.TreeSet;
import java.util.regex.Matcher;
import java.util.regex.Pattern;

/** The class has the document's members and no others, and keeps to what can be seen of LANGUAGE.md. */
public final class FaceTests {
    private static final String SOURCE = "src/main/java/CupClaims.java";

    private static final String[] FACE = {
        "int type(int)", "int clearText()", "int fault(boolean)", "int newGame(int)", "int setWild(boolean)",
        "int deal()", "int roll(int)", "int claim(int,int)", "int doubt()", "int callExact()",
        "int setMatrix()", "int undo()", "int player(int,int)", "int die(int,int)", "int counting(int,int)",
        "int rank(int,int)", "long chance(int,int,int,int)", "int chanceBits(int,int,int)",
        "int bestClaim(int)", "int advice()", "int entry(int,int)", "long value(boolean)",
        "long share(boolean,int,boolean)", "int saddle(int,int)", "int count(int)", "long digest()",
    };

    private static final String[] OUTSIDE = {
        "->", "::", "\\bimport\\b", "\\bpackage\\b", "\\bcatch\\b", "\\btry\\b", "\\bfinally\\b", "\\bthrow\\b",
        "\\bthrows\\b", "\\bsynchronized\\b", "\\bassert\\b", "\\bnative\\b", "\\bdouble\\b",
        "\\bFloat\\b", "\\bDouble\\b", "\\bSystem\\.(?!arraycopy\\b)", "\\bMath\\.\\w*Exact\\b",
        "\\bequals\\b", "\\bhashCode\\b", "\\btoString\\b", "\\bprotected\\b",
    };

    private static int wrong = 0;

    public static void main(String[] args) throws IOException {
        new CupClaims();
        membersAreTheDocuments();
        classesInside();
        String text = Files.readString(Path.of(SOURCE)).replaceAll("(?s)/\\*.*?\\*/", "").replaceAll("//.*", "");
        for (String outside : OUTSIDE) {
            Matcher found = Pattern.compile(outside).matcher(text);
            if (found.find()) {
                tell("stands in the class: " + found.group());
            }
        }
        System.out.println(wrong == 0 ? "the face is the document's" : wrong + " faults");
        if (wrong != 0) {
            System.exit(1);
        }
    }

    private static void tell(String fault) {
        wrong++;
        System.out.println(fault);
    }

    private static void membersAreTheDocuments() {
        Set<String> face = new TreeSet<>();
        Set<String> hidden = new TreeSet<>();
        Set<String> names = new TreeSet<>();
        for (Method method : CupClaims.class.getDeclaredMethods()) {
            String said = method.toGenericString().replaceAll("CupClaims\\.", "");
            if (Modifier.isPublic(method.getModifiers())) {
                face.add(said.replace("public ", ""));
                names.add(method.getName());
            } else if (Modifier.isPrivate(method.getModifiers())) {
                hidden.add(method.getName());
            } else {
                tell("neither public nor private: " + said);
            }
        }
        Set<String> due = new TreeSet<>(Set.of(FACE));
        if (!face.equals(due)) {
            tell("the methods are " + face + ", due are " + due);
        }
        hidden.retainAll(names);
        if (!hidden.isEmpty()) {
            tell("private methods bear the names of public ones: " + hidden);
        }
        fieldsAreTheDocuments();
        Constructor<?>[] constructors = CupClaims.class.getDeclaredConstructors();
        if (constructors.length != 1 || !constructors[0].toString().equals("public CupClaims()")) {
            tell("the constructor is not the document's");
        }
        if (CupClaims.class.getModifiers() != (Modifier.PUBLIC | Modifier.FINAL)) {
            tell("the class is not public and final");
        }
    }

    private static void fieldsAreTheDocuments() {
        Set<String> constants = new TreeSet<>();
        for (Field field : CupClaims.class.getDeclaredFields()) {
            int modifiers = field.getModifiers();
            if (Modifier.isPublic(modifiers)) {
                constants.add(field.toString());
            } else if (!Modifier.isPrivate(modifiers)) {
                tell("neither public nor private: " + field);
            }
            if (!Modifier.isFinal(modifiers)) {
                tell("not final: " + field);
            }
        }
        Set<String> due = new TreeSet<>();
        for (String name : new String[] {"BAD", "STATE", "FULL", "NONE"}) {
            due.add("public static final int CupClaims." + name);
        }
        if (!constants.equals(due)) {
            tell("the constants are " + constants);
        }
    }

    private static void classesInside() {
        Class<?>[] inside = CupClaims.class.getDeclaredClasses();
        if (inside.length > 12) {
            tell(inside.length + " classes inside");
        }
        for (Class<?> one : inside) {
            if (Modifier.isPublic(one.getModifiers()) || !Modifier.isStatic(one.getModifiers())) {
                tell("public or not static: " + one);
            }
            for (Field field : one.getDeclaredFields()) {
                if (Modifier.isStatic(field.getModifiers())) {
                    tell("a static field: " + field);
                }
            }
        }
    }
}
