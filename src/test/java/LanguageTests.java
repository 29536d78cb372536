import java.io.IOException;
import java.lang.reflect.Field;
import java.lang.reflect.Method;
import java.lang.reflect.Modifier;
import java.nio.file.Files;
import java.nio.file.Path;
import java.util.ArrayList;
import java.util.HashMap;
import java.util.List;
import java.util.Map;
import java.util.Set;
import java.util.regex.Pattern;

/** ../shared/LANGUAGE.md, rule by rule, as far as the text of the class and what javac makes of it can show it. */
public final class LanguageTests {
    private static final String[] FORBIDDEN = {"->", "::", "\\bcatch\\b", "\\bfinally\\b", "\\bimport\\b",
        "\\bpackage\\b", "\\bsynchronized\\b", "\\bassert\\b", "\\btry\\b", "\\bvar\\b", "\\[\\]\\[\\]\\[\\]",
        "\" *\\+", "\\+ *\"", "\\binstanceof\\b", "\\bObject\\b"};
    /** Rule 4: of the library, what the class needs; rule 6: the exceptions that the document names. */
    private static final Set<String> LIBRARY = Set.of("java/lang/Object.<init> ()V", "java/lang/Math.min (II)I",
        "java/lang/Math.max (II)I", "java/lang/Integer.bitCount (I)I", "java/lang/StringBuilder.<init> ()V",
        "java/lang/StringBuilder.append (Ljava/lang/String;)Ljava/lang/StringBuilder;",
        "java/lang/StringBuilder.append (I)Ljava/lang/StringBuilder;",
        "java/lang/StringBuilder.append (C)Ljava/lang/StringBuilder;",
        "java/lang/StringBuilder.toString ()Ljava/lang/String;");
    private static final Set<String> THROWN = Set.of("java/lang/IllegalStateException",
        "java/lang/IllegalArgumentException", "java/lang/IndexOutOfBoundsException");
    private static final int MOST_LINES = 60;
    private static final int MOST_CLASSES = 12;
    private static final int MOST_FIELDS = 20;
    private static final int MOST_PARAMETERS = 7;
    private static final int MOST_DEEP = 8;
    private static final List<Class<?>> OWN = new ArrayList<>();
    private static final Map<String, ClassFile.Method> METHODS = new HashMap<>();
    private static final Map<String, Integer> DEPTHS = new HashMap<>();
    private static int wrong = 0;

    private static void fault(String where, String what) {
        wrong++;
        System.out.println(where + ": " + what);
    }

    private static void need(boolean holds, String where, String what) {
        if (!holds) fault(where, what);
    }

    public static void main(String[] args) throws IOException {
        theText();
        OWN.add(Rollover.class);
        OWN.addAll(List.of(Rollover.class.getDeclaredClasses()));
        need(OWN.size() <= MOST_CLASSES, "rule 11", OWN.size() + " classes");
        for (Class<?> one : OWN) {
            shape(one);
            for (ClassFile.Method m : new ClassFile(one.getName()).methods) {
                METHODS.put(one.getName() + "." + m.name + " " + m.descriptor, m);
            }
        }
        for (String where : METHODS.keySet()) instructions(where, METHODS.get(where));
        for (String where : METHODS.keySet()) {
            need(depthOf(where, 0) <= MOST_DEEP, where, "rule 11: calls go deeper than " + MOST_DEEP);
        }
        noNameTwice();
        System.out.println((wrong == 0 ? "1 passed, 0" : "0 passed, 1") + " failed");
        if (wrong != 0) System.exit(1);
    }

    /** What javac does not keep: words, signs. */
    private static void theText() throws IOException {
        List<String> lines = Files.readAllLines(Path.of("src/main/java/Rollover.java"));
        for (int k = 0; k < lines.size(); k++) {
            String code = lines.get(k).replaceAll("//.*|/\\*.*|^ *\\*.*", "");
            for (String f : FORBIDDEN) {
                need(!Pattern.compile(f).matcher(code).find(), "line " + (k + 1), "holds " + f);
            }
            need(code.chars().allMatch(c -> c > 0 && c < 128), "line " + (k + 1), "a sign above 127");
        }
    }

    /** Rules 1 to 3, 5 and 11: how a class looks from outside its methods. */
    private static void shape(Class<?> one) {
        String where = one.getName();
        int flags = one.getModifiers();
        if (one == Rollover.class) {
            need(Modifier.isPublic(flags) && Modifier.isFinal(flags), where, "rule 1: public and final");
        } else {
            need(!Modifier.isPublic(flags) && !Modifier.isProtected(flags) && Modifier.isStatic(flags), where,
                    "rule 1: classes inside are private or package-visible and static");
            need(one.getDeclaredClasses().length == 0, where, "a class inside a class inside");
        }
        int fields = 0;
        for (Field f : one.getDeclaredFields()) {
            boolean isConstant = Modifier.isStatic(f.getModifiers());
            fields += isConstant ? 0 : 1;
            need(!isConstant || Modifier.isFinal(f.getModifiers()), where, "rule 5: " + f.getName() + " is not final");
            need(isConstant ? f.getType().isPrimitive() : isAllowed(f.getType()), where, "rule 3: " + f.getName());
        }
        need(fields <= MOST_FIELDS, where, "rule 11: " + fields + " fields");
        for (Method m : one.getDeclaredMethods()) {
            boolean isFace = one == Rollover.class && !Modifier.isPrivate(m.getModifiers());
            need(!isFace || Modifier.isPublic(m.getModifiers()), where, "rule 1: " + m.getName() + " is open");
            need(m.getParameterCount() <= MOST_PARAMETERS, where, "rule 11: parameters of " + m.getName());
            need(isAllowed(m.getReturnType()), where, "rule 3: what " + m.getName() + " returns");
            for (Class<?> type : m.getParameterTypes()) need(isAllowed(type), where, "rule 3: " + m.getName());
        }
    }

    private static boolean isAllowed(Class<?> type) {
        if (type.isArray()) return type.getComponentType().isPrimitive() || OWN.contains(type.getComponentType());
        return type.isPrimitive() || OWN.contains(type) || type == String.class || type == StringBuilder.class;
    }

    /** Rules 2, 4, 5, 6, 11 and 12: what a method does. */
    private static void instructions(String where, ClassFile.Method m) {
        need(!m.name.equals("<clinit>"), where, "rule 5: a static initialiser");
        need(!m.isDynamic, where, "rule 2: a lambda, or a text joined by +");
        need(m.handlers == 0, where, "a catch");
        need(m.casts.isEmpty(), where, "a cast");
        need(m.lastLine - m.firstLine <= MOST_LINES, where, "rule 11: a long method");
        boolean isMaker = m.name.equals("<init>");
        need(!isMaker || !m.isThrowing, where, "rule 6: a throw in a constructor");
        for (String call : m.calls) {
            boolean isThrown = THROWN.contains(call.replaceAll("\\..*", ""));
            need(METHODS.containsKey(call) || LIBRARY.contains(call) || isThrown, where, "rule 4: " + call);
            need(!isMaker || call.contains(".<init> "), where, "rule 12: a constructor calls " + call);
        }
        for (String made : m.made) {
            boolean isText = made.equals("java/lang/StringBuilder") && where.startsWith("Rollover.line ");
            need(isMaker || isText || (THROWN.contains(made) && m.isThrowing), where,
                    "rule 12: rows are made in constructors, not " + made);
        }
    }

    /** Rules 8 and 11: how deep the calls of a method go, itself and the library's own counted. */
    private static int depthOf(String where, int above) {
        if (!METHODS.containsKey(where)) return 1;
        if (above > 40) {
            fault(where, "rule 8: a recursion");
            return 0;
        }
        if (DEPTHS.containsKey(where)) return DEPTHS.get(where);
        int deepest = 0;
        for (String call : METHODS.get(where).calls) deepest = Math.max(deepest, depthOf(call, above + 1));
        DEPTHS.put(where, deepest + 1);
        return deepest + 1;
    }

    /** Rule 1: "No private method bears the name of a public one." */
    private static void noNameTwice() {
        for (Class<?> own : OWN) {
            for (Method one : own.getDeclaredMethods()) {
                for (Method other : Rollover.class.getDeclaredMethods()) {
                    boolean isHidden = own == Rollover.class ? Modifier.isPrivate(one.getModifiers()) : true;
                    if (isHidden && Modifier.isPublic(other.getModifiers()) && one.getName().equals(other.getName())) {
                        fault(own.getName(), "rule 1: a second " + one.getName());
                    }
                }
            }
        }
    }
}
