import java.lang.reflect.Constructor;
import java.lang.reflect.Field;
import java.lang.reflect.Method;
import java.lang.reflect.Modifier;
import java.nio.file.Files;
import java.nio.file.Path;
import java.util.ArrayList;
import java.util.List;
import java.util.regex.Matcher;
import java.util.regex.Pattern;

/** The rules of LANGUAGE.md that can be seen from the text of the class, or from the class when it is loaded. */
public final class LanguageTest {
    private static final String[] FORBIDDEN = {
        "\\bthrow\\b", "\\bthrows\\b", "\\btry\\b", "\\bcatch\\b", "\\bfinally\\b", "\\bsynchronized\\b",
        "\\bassert\\b", "\\bimport\\b", "\\bpackage\\b", "\\bprotected\\b", "->", "::", "@", "\\bstatic\\s*\\{",
        "\\bObject\\b", "\\bSystem\\.(?!arraycopy)", "Exact\\b", "\\bThread\\b", "\\bRandom\\b", "\\bhashCode\\b",
        "\\btoString\\b", "\\bequals\\b", "\\bwhile\\s*\\(\\s*true", "\\bfor\\s*\\(\\s*;", "\\bnative\\b", "\\bvar\\b"};
    private static final String[] FACE = {
        "public static final int NONE = -1;", "public HeronsBench()", "public int vessel(int kind, int brim)",
        "public int marks(int vessel, int high, int low)", "public int own(int vessel, int pipe)",
        "public int tips(int vessel, int to)", "public int over(int vessel, int to)",
        "public int pipe(int from, int to, int amount)", "public int fill(int vessel, int n)",
        "public int shut(int pipe, boolean is)", "public int amount(int pipe, int n)", "public int go(int until)",
        "public int now(int what)", "public long next(int what)", "public int level(int vessel, int what)",
        "public int rate(int vessel)", "public int flow(int pipe)", "public int flood(int vessel)",
        "public int told(int vessel, int what)", "public int pipeTold(int pipe, int what)",
        "public int count(int what)", "public int event(int i, int what)", "public long sum(int what)",
        "public int round(int what)", "public int tune(int pipe, int low, int high, int vessel, int when)",
        "public int act(int vessel, int act, int x)", "public int trace(int i)",
        "public int forge(int what, int n, int k)", "public int status()"};
    private static final Pattern METHOD = Pattern.compile(
        "^ {4,8}((?:public |private |static |final )*)(?:int|long|boolean|void) (\\w+)\\(([^)]*)\\) \\{$", Pattern.MULTILINE);

    private static int wrong = 0;

    private static void fault(String what) {
        wrong++;
        System.out.println(what);
    }

    public static void main(String[] args) throws Exception {
        String text = Files.readString(Path.of("src/main/java/HeronsBench.java"));
        String code = text.replaceAll("(?s)/\\*.*?\\*/", "").replaceAll("//[^\n]*", "");
        for (String rule : FORBIDDEN) {
            if (Pattern.compile(rule).matcher(code).find()) {
                fault("the class has what matches " + rule);
            }
        }
        checkFace(code);
        checkMethods(code);
        checkClasses(code);
        checkObjectsMade(code);
        checkMembers();
        checkFields(HeronsBench.class);
        for (Class<?> inside : HeronsBench.class.getDeclaredClasses()) {
            checkInside(inside);
        }
        System.out.println("the language: " + wrong + " faults");
        if (wrong != 0) {
            System.exit(1);
        }
    }

    private static void checkFace(String code) {
        for (String member : FACE) {
            if (!code.contains("    " + member)) {
                fault("the face lacks " + member);
            }
        }
        int members = code.split("\n    public ", -1).length - 1;
        if (members != FACE.length) {
            fault(members + " public members, not " + FACE.length);
        }
    }

    private static void checkMethods(String code) {
        List<String> face = new ArrayList<>();
        List<String> others = new ArrayList<>();
        Matcher m = METHOD.matcher(code);
        while (m.find()) {
            (m.group(1).contains("public") ? face : others).add(m.group(2));
            if (m.group(3).split(",").length > 7) {
                fault(m.group(2) + " takes more than seven parameters");
            }
            String indent = m.group().replaceAll("\\S.*", "");
            int end = code.indexOf("\n" + indent + "}", m.end());
            if (code.substring(m.start(), end).split("\n").length > 60) {
                fault(m.group(2) + " is longer than sixty lines");
            }
        }
        for (String name : others) {
            if (face.contains(name)) {
                fault(name + " bears the name of a public method");
            }
        }
    }

    private static void checkClasses(String code) {
        Matcher m = Pattern.compile("(.*)\\bclass (\\w+)").matcher(code);
        int classes = 0;
        while (m.find()) {
            classes++;
            if (classes > 1 && !m.group(1).contains("private static")) {
                fault(m.group(2) + " is not private and static");
            }
        }
        if (classes > 12) {
            fault(classes + " classes");
        }
    }

    /** Rule 12 and the room of a run: objects are made where a field or a constructor stands, by no later call. */
    private static void checkObjectsMade(String code) {
        for (String line : code.split("\n")) {
            boolean field = line.matches("\\s*(private )?final [\\w\\[\\]]+ \\w+ = new [^;]*;");
            boolean inConstructor = line.matches("        \\w+(\\[\\w+\\])? = new [^;]*;");
            if (line.matches(".*\\bnew\\b.*") && !field && !inConstructor) {
                fault("an object is made elsewhere: " + line.trim());
            }
        }
        String body = code.substring(code.indexOf("public HeronsBench()"), code.indexOf("public int vessel("));
        int inConstructor = code.split("\n        \\w+(\\[\\w+\\])? = new ", -1).length;
        if (body.split("\n        \\w+(\\[\\w+\\])? = new ", -1).length != inConstructor) {
            fault("an object is made in a method that is no constructor");
        }
    }

    /** Rule 1: what is not public is private. */
    private static void checkMembers() {
        if (!Modifier.isFinal(HeronsBench.class.getModifiers()) || !Modifier.isPublic(HeronsBench.class.getModifiers())) {
            fault("the class is not public and final");
        }
        int shown = 0;
        for (Method method : HeronsBench.class.getDeclaredMethods()) {
            shown += shown(method.getModifiers(), method.getName());
        }
        for (Constructor<?> constructor : HeronsBench.class.getDeclaredConstructors()) {
            shown += shown(constructor.getModifiers(), "a constructor");
        }
        for (Field field : HeronsBench.class.getDeclaredFields()) {
            shown += shown(field.getModifiers(), field.getName());
        }
        if (shown != FACE.length) {
            fault(shown + " members are shown, not " + FACE.length);
        }
    }

    private static int shown(int modifiers, String name) {
        if (!Modifier.isPublic(modifiers) && !Modifier.isPrivate(modifiers)) {
            fault(name + " is neither public nor private");
        }
        return Modifier.isPublic(modifiers) ? 1 : 0;
    }

    private static void checkInside(Class<?> inside) {
        int modifiers = inside.getModifiers();
        boolean hidden = !Modifier.isPublic(modifiers) && !Modifier.isProtected(modifiers);
        if (!hidden || !Modifier.isStatic(modifiers)) {
            fault(inside.getSimpleName() + " is shown or not static");
        }
        if (inside.getDeclaredClasses().length != 0) {
            fault(inside.getSimpleName() + " has classes inside");
        }
        checkFields(inside);
    }

    /** Rule 5: static fields are final, and constants; rule 11: some twenty fields beside them; rule 3: plain types. */
    private static void checkFields(Class<?> owner) {
        int own = 0;
        for (Field field : owner.getDeclaredFields()) {
            Class<?> type = field.getType();
            if (!Modifier.isStatic(field.getModifiers())) {
                own++;
            } else if (!Modifier.isFinal(field.getModifiers()) || type != int.class && type != int[].class) {
                fault(field.getName() + " is static, and no constant number or row of numbers");
            }
            if (!isAllowed(type) && !(type.isArray() && isAllowed(type.getComponentType())) && type != int[][].class
                    && type != long[][].class) {
                fault(field.getName() + " has a type that is not allowed");
            }
        }
        if (own > 20) {
            fault(owner.getSimpleName() + " has " + own + " fields");
        }
    }

    private static boolean isAllowed(Class<?> type) {
        return type.isPrimitive() || !type.isArray() && type.getEnclosingClass() == HeronsBench.class;
    }
}
