import java.io.IOException;
import java.lang.reflect.Constructor;
import java.lang.reflect.Field;
import java.lang.reflect.Method;
import java.lang.reflect.Modifier;
import java.nio.file.Files;
import java.nio.file.Path;
import java.util.List;
import java.util.Set;
import java.util.TreeSet;
import java.util.regex.Matcher;
import java.util.regex.Pattern;

/** The class shows the document's face and no more, and its file keeps to what the language rules leave. */
public final class FaceTest {
    private static final String[] METHODS = {
        "sheet:int", "limit:int", "feed:int", "law:", "fold:int,int", "flat:", "crease:int,int", "shape:int",
        "where:int,int", "pile:int,int", "led:int", "plan:int,int", "plans:int,int,int", "cost:int", "lies:int,int",
        "top:int,int", "beside:int,int", "wished:int,int", "right:int", "wind:int,int,int", "crosses:int,int",
        "orders:int,int", "bends:int,int", "by:int,int,int", "with:int,int", "image:", "back:", "undo:", "redo:",
        "body:int", "act:int,int,int", "trace:int", "keep:int,int", "row:int,int,int", "put:int,int,long",
        "element:int,int", "shift:int,int,int,int,int", "taken:int,int", "count:int"};
    private static int wrong = 0;

    private static void check(boolean holds, String told) {
        if (!holds) {
            wrong++;
            System.out.println(told);
        }
    }

    public static void main(String[] args) throws IOException {
        methods();
        constants();
        document(Files.readString(Path.of("../shared/DOC.md")));
        nested(MapFold.class, publicNames());
        String code = withoutComments(Files.readString(Path.of("src/main/java/MapFold.java")));
        words(code);
        bodies(code);
        System.out.println(wrong == 0 ? "the face is as it must be" : wrong + " faults of the face");
        if (wrong != 0) {
            System.exit(1);
        }
    }

    private static void methods() {
        check(Modifier.isFinal(MapFold.class.getModifiers()), "the class is not final");
        Set<String> due = new TreeSet<>(List.of(METHODS));
        Set<String> got = new TreeSet<>();
        for (Method m : MapFold.class.getDeclaredMethods()) {
            if (Modifier.isPrivate(m.getModifiers()) || m.isSynthetic()) {
                continue;
            }
            check(Modifier.isPublic(m.getModifiers()) && !Modifier.isStatic(m.getModifiers()), m + " is seen");
            got.add(signature(m));
            String answer = m.getName().equals("element") ? "long" : "int";
            check(m.getReturnType().getName().equals(answer), m + " answers another type");
        }
        check(got.equals(due), "methods are " + got + ", due are " + due);
        Constructor<?>[] made = MapFold.class.getDeclaredConstructors();
        check(made.length == 1 && made[0].getParameterCount() == 0 && Modifier.isPublic(made[0].getModifiers()),
            "the constructor");
    }

    private static String signature(Method m) {
        StringBuilder types = new StringBuilder(m.getName()).append(':');
        for (int i = 0; i < m.getParameterCount(); i++) {
            types.append(i == 0 ? "" : ",").append(m.getParameterTypes()[i].getName());
        }
        return types.toString();
    }

    private static Set<String> publicNames() {
        Set<String> names = new TreeSet<>();
        for (String m : METHODS) {
            names.add(m.substring(0, m.indexOf(':')));
        }
        return names;
    }

    private static void constants() {
        Set<String> seen = new TreeSet<>();
        for (Field f : MapFold.class.getDeclaredFields()) {
            if (!Modifier.isPrivate(f.getModifiers())) {
                seen.add(f.getName());
                check(Modifier.isPublic(f.getModifiers()) && Modifier.isStatic(f.getModifiers()), f + " is seen");
            }
        }
        check(seen.equals(Set.of("BAD", "NOT", "FULL", "STATE", "VOID")), "constants are " + seen);
        check(MapFold.BAD == -1 && MapFold.NOT == -2 && MapFold.FULL == -3 && MapFold.STATE == -5
            && MapFold.VOID == -2000000000, "a constant's value");
    }

    /** No class is an inner one, none has a private method named as a public one, no static field changes. */
    private static void nested(Class<?> c, Set<String> names) {
        for (Method m : c.getDeclaredMethods()) {
            check(Modifier.isPublic(m.getModifiers()) || !names.contains(m.getName()), m + " bears a public name");
            check(m.getParameterCount() <= 7, m + " takes too much");
        }
        int own = 0;
        for (Field f : c.getDeclaredFields()) {
            boolean fixed = Modifier.isStatic(f.getModifiers());
            check(!fixed || Modifier.isFinal(f.getModifiers()), f + " is not final");
            own += fixed ? 0 : 1;
        }
        check(own <= 20, c + " has " + own + " fields");
        check(c.getDeclaredClasses().length <= 12, "too many classes");
        for (Class<?> inside : c.getDeclaredClasses()) {
            check(Modifier.isStatic(inside.getModifiers()), inside + " is not static");
            check(!Modifier.isPublic(inside.getModifiers()), inside + " is public");
            nested(inside, names);
        }
    }

    /** The list above is the document's own, and so are the constants. */
    private static void document(String text) {
        Set<String> due = new TreeSet<>();
        Matcher m = Pattern.compile("(?m)^    public (int|long) (\\w+)\\(([^)]*)\\);").matcher(text);
        while (m.find()) {
            due.add(m.group(2) + ":" + m.group(3).replaceAll(" \\w+(?=,|$)", "").replace(" ", ""));
            check(m.group(1).equals(m.group(2).equals("element") ? "long" : "int"), m.group() + " answers another type");
        }
        check(due.equals(new TreeSet<>(List.of(METHODS))), "the document's methods are " + due);
        check(text.contains("BAD = -1, NOT = -2, FULL = -3, STATE = -5, VOID = -2000000000;"), "the document's constants");
    }

    private static String withoutComments(String source) {
        return source.replaceAll("(?s)/\\*.*?\\*/", "").replaceAll("//[^\n]*", "");
    }

    private static void words(String code) {
        Matcher m = Pattern.compile("\\b(throw|throws|try|catch|finally|synchronized|assert|package|float|double"
            + "|[A-Za-z]*Exact|Random|System\\.(?!arraycopy)\\w+|Thread)\\b|->|::").matcher(code);
        while (m.find()) {
            check(false, "the file has " + m.group());
        }
        Matcher imports = Pattern.compile("import ([^;]*);").matcher(code);
        while (imports.find()) {
            check(imports.group(1).equals("java.util.Arrays"), "import of " + imports.group(1));
        }
    }

    /** Methods stay short, and only fields and constructors make objects: so the room does not fill with the calls. */
    private static void bodies(String code) {
        Pattern head = Pattern.compile("^ +(?!switch|for|if|while|else|\\})(?:[\\w\\[\\]]+ )*(\\w+)\\(.*\\) \\{$");
        int indent = -1;
        int length = 0;
        String name = "";
        for (String line : code.split("\n")) {
            int spaces = line.length() - line.stripLeading().length();
            Matcher m = head.matcher(line);
            if (indent < 0 && m.matches()) {
                indent = spaces;
                length = 0;
                name = m.group(1);
            }
            length++;
            boolean makes = line.contains("new ") && !line.contains(" final ");
            check(!makes || indent >= 0 && Character.isUpperCase(name.charAt(0)), "a call makes an object:" + line);
            if (indent >= 0 && spaces == indent && line.strip().equals("}")) {
                check(length <= 60, name + " has " + length + " lines");
                indent = -1;
            }
        }
        check(indent < 0, name + " has no end");
    }
}
