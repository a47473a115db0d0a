import java.io.IOException;
import java.lang.reflect.Constructor;
import java.lang.reflect.Field;
import java.lang.reflect.Method;
import java.lang.reflect.Modifier;
import java.nio.file.Files;
import java.nio.file.Path;
import java.util.ArrayList;
import java.util.List;
import java.util.Set;
import java.util.TreeSet;
import java.util.regex.Matcher;
import java.util.regex.Pattern;
import java.util.stream.Stream;

/** The public face of the document, and what of LANGUAGE.md can be seen in the class and its text. */
public final class FaceTest {
    private static final Check check = new Check();
    private static final Path SOURCE = Path.of("src/main/java/FlueRounds.java");

    public static void main(String[] args) throws IOException {
        theClass();
        theMethods();
        theFields();
        theNestedClasses(publicNames());
        String code = codeOf(Files.readString(SOURCE));
        theText(code);
        theLibrary(code);
        theLengths(code);
        check.end("FaceTest");
    }

    private static void theClass() {
        int m = FlueRounds.class.getModifiers();
        check.isTrue("public and final", Modifier.isPublic(m) && Modifier.isFinal(m));
        Constructor<?>[] made = FlueRounds.class.getDeclaredConstructors();
        check.isTrue("one public constructor without parameters", made.length == 1
            && Modifier.isPublic(made[0].getModifiers()) && made[0].getParameterCount() == 0);
    }

    static Set<String> publicNames() {
        Set<String> names = new TreeSet<>();
        for (Method m : FlueRounds.class.getDeclaredMethods()) {
            if (Modifier.isPublic(m.getModifiers())) {
                names.add(m.getName());
            }
        }
        return names;
    }

    private static void theMethods() {
        Set<String> want = new TreeSet<>(Set.of("int type(long,int)", "int clear()", "int law()", "int span(int,int)",
            "int days(int)", "int flue(int,int,int,int,int,int,int,int)", "int draught(int)", "int about(int,int)",
            "int due(int)", "int beyond()", "int sweep(int)", "int refuse(int)", "int look(int,int,boolean)",
            "int known(int,int)", "int fire(int,int)", "int back(int,int)", "int rate(int)", "int ill(int,boolean)",
            "int fees(int,int)", "int round(int,int,int)", "int at(int)", "int count(int)", "long trace()"));
        Set<String> got = new TreeSet<>();
        Set<String> names = publicNames();
        for (Method m : FlueRounds.class.getDeclaredMethods()) {
            if (Modifier.isPublic(m.getModifiers())) {
                got.add(m.getReturnType() + " " + m.toString().replaceAll(".*\\.(\\w+\\(.*\\)).*", "$1"));
                check.isTrue("no static " + m, !Modifier.isStatic(m.getModifiers()));
            }
        }
        check.isTrue("public methods " + got + " are those of the document", got.equals(want));
        for (Method m : FlueRounds.class.getDeclaredMethods()) {
            boolean isPrivate = Modifier.isPrivate(m.getModifiers());
            check.isTrue("public or private: " + m, isPrivate || Modifier.isPublic(m.getModifiers()));
            check.isTrue("a name of its own: " + m, !isPrivate || !names.contains(m.getName()));
            check.isTrue("seven parameters at most: " + m, !isPrivate || m.getParameterCount() <= 7);
        }
    }

    private static void theFields() {
        Set<String> got = new TreeSet<>();
        for (Field f : FlueRounds.class.getDeclaredFields()) {
            int m = f.getModifiers();
            if (!Modifier.isPrivate(m)) {
                got.add(Modifier.toString(m) + " " + f.getType() + " " + f.getName());
            }
            check.isTrue("no static state: " + f, !Modifier.isStatic(m) || Modifier.isFinal(m));
        }
        String kind = "public static final int ";
        check.isTrue("constants " + got, got.equals(Set.of(kind + "BAD", kind + "STATE", kind + "FULL", kind + "NONE")));
        check.is("BAD", FlueRounds.BAD, -1);
        check.is("STATE", FlueRounds.STATE, -2);
        check.is("FULL", FlueRounds.FULL, -3);
        check.is("NONE", FlueRounds.NONE, -9);
    }

    private static void theNestedClasses(Set<String> publicNames) {
        check.isTrue("some twelve classes at most", FlueRounds.class.getDeclaredClasses().length < 12);
        for (Class<?> c : FlueRounds.class.getDeclaredClasses()) {
            int m = c.getModifiers();
            check.isTrue("static, not public: " + c,
                Modifier.isStatic(m) && !Modifier.isPublic(m) && !Modifier.isProtected(m));
            for (Field f : c.getDeclaredFields()) {
                int fm = f.getModifiers();
                check.isTrue("no static state: " + f, !Modifier.isStatic(fm) || Modifier.isFinal(fm));
            }
            for (Method method : c.getDeclaredMethods()) {
                check.isTrue("seven parameters at most: " + method, method.getParameterCount() <= 7);
                check.isTrue("a name of its own: " + method, !publicNames.contains(method.getName()));
            }
        }
    }

    private static String codeOf(String source) {
        return source.replaceAll("(?s)/\\*.*?\\*/", "").replaceAll("//[^\n]*", "");
    }

    private static void theText(String code) {
        String[] barred = {"\\bthrow\\b", "\\btry\\b", "\\bcatch\\b", "\\bsynchronized\\b", "\\bassert\\b", "\\bimport\\b",
            "\\bpackage\\b", "->", "::", "\\bstatic\\s*\\{", "\"", "Exact\\b", "\\bThread\\b", "\\bSystem\\b",
            "\\bdouble\\b", "\\bfloat\\b", "\\bInteger\\.MAX"};
        for (String word : barred) {
            check.isTrue("no " + word + " in the text", !code.matches("(?s).*" + word + ".*"));
        }
        // Calls make nothing: what is made is made with the object, in final fields.
        for (String line : code.split("\n")) {
            check.isTrue("made with the object:" + line, !line.matches(".*\\bnew\\b.*") || line.matches(" +final .*|.* private final .*"));
        }
    }

    private static void theLibrary(String code) {
        Set<String> own = new TreeSet<>(Set.of("FlueRounds"));
        for (Class<?> c : FlueRounds.class.getDeclaredClasses()) {
            own.add(c.getSimpleName());
        }
        Matcher used = Pattern.compile("\\b([A-Z]\\w*[a-z]\\w*)\\b(?:\\.(\\w+))?").matcher(code);
        while (used.find()) {
            boolean isMath = used.group(1).equals("Math") && Set.of("abs", "max", "min").contains(String.valueOf(used.group(2)));
            check.isTrue("rule 4: " + used.group(), isMath || own.contains(used.group(1)));
        }
    }

    /** Blocks of methods begin and end at the same indent, those of classes inside one step farther in. */
    private static void theLengths(String code) {
        Matcher method = Pattern.compile("(?ms)^( {4}| {8})(?=\\w)[^\n;=]*\\) \\{\n(.*?)^\\1\\}").matcher(code);
        int found = 0;
        while (method.find()) {
            found++;
            check.isTrue("rule 11: some sixty lines: " + method.group(), method.group().split("\n").length <= 60);
        }
        check.isTrue("rule 11: methods were looked at", found >= FlueRounds.class.getDeclaredMethods().length);
        List<Class<?>> classes = new ArrayList<>(List.of(FlueRounds.class.getDeclaredClasses()));
        classes.add(FlueRounds.class);
        for (Class<?> c : classes) {
            long fields = Stream.of(c.getDeclaredFields()).filter(f -> !Modifier.isStatic(f.getModifiers())).count();
            check.isTrue("rule 11: some twenty fields: " + c, fields <= 20);
        }
    }
}
