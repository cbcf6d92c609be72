import java.io.IOException;
import java.lang.reflect.Constructor;
import java.lang.reflect.Field;
import java.lang.reflect.Method;
import java.lang.reflect.Modifier;
import java.nio.file.Files;
import java.nio.file.Path;
import java.util.ArrayList;
import java.util.List;
import java.util.Set;
import java.util.TreeSet;
import java.util.regex.Matcher;
import java.util.regex.Pattern;

/** The face of the class, and what of its language can be seen without understanding it. */
public final class FaceTest {
    private static final Check CHECK = new Check("FaceTest");
    private static final String[] FACE = {
        "int makeVersion(int,int) IllegalArgument IndexOutOfBounds IllegalState",
        "int feed(char) IllegalState",
        "int amend(int) IndexOutOfBounds UnsupportedOperation",
        "int impossible() NoSuchElement",
        "int versionOn(int) IllegalArgument NoSuchElement",
        "int version(int,int) IndexOutOfBounds IllegalArgument",
        "int zoneOf(int,int) IndexOutOfBounds NoSuchElement",
        "int breakOf(int,int,int,boolean) IndexOutOfBounds",
        "int accessorial(int,int,int) IndexOutOfBounds NoSuchElement IllegalArgument",
        "int base(int,int,int) IndexOutOfBounds IllegalArgument NoSuchElement",
        "int ship(int,int,int,int) IllegalArgument IllegalState",
        "int pack(int,int,int,int,int) IndexOutOfBounds IllegalArgument IllegalState",
        "int route(int,int,int) IndexOutOfBounds IllegalArgument IllegalState",
        "int handle(int,int) IndexOutOfBounds IllegalArgument IllegalState",
        "int shipment(int,int) IndexOutOfBounds IllegalArgument",
        "int rate(int) IndexOutOfBounds IllegalState",
        "int rating(int,int) IndexOutOfBounds IllegalArgument IllegalState",
        "int refuses(int) IndexOutOfBounds",
        "int refusal(boolean) NoSuchElement",
        "double meanPrice(int) IndexOutOfBounds IllegalState",
        "int consolidate(int) IndexOutOfBounds IllegalArgument IllegalState",
        "int group(int,int) IndexOutOfBounds IllegalArgument IllegalState NoSuchElement",
        "int searched(int) IndexOutOfBounds IllegalArgument IllegalState",
        "int merged(int,int) IndexOutOfBounds IllegalArgument IllegalState",
        "int post(int) IndexOutOfBounds IllegalArgument UnsupportedOperation IllegalState",
        "int account(int) IllegalArgument",
        "int setRebate(int,int) IllegalArgument NoSuchElement IllegalState",
        "int rebate(int) IllegalArgument",
        "int undo() IllegalState",
        "int saveSnapshot()",
        "int restoreSnapshot() IllegalState",
        "int write(int,int) IndexOutOfBounds NoSuchElement",
        "char paper(int) IndexOutOfBounds"};

    public static void main(String[] args) throws IOException {
        face();
        language(Files.readString(Path.of("src/main/java/FreightRater.java")));
        CHECK.end();
    }

    private static void face() {
        Set<String> due = new TreeSet<>(List.of(FACE));
        Set<String> got = new TreeSet<>();
        Set<String> names = new TreeSet<>();
        for (Method method : FreightRater.class.getDeclaredMethods()) {
            if (Modifier.isPublic(method.getModifiers())) {
                got.add(described(method));
                names.add(method.getName());
            }
        }
        CHECK.is("the face: " + difference(got, due), 0, () -> got.equals(due) ? 0 : 1);
        Constructor<?>[] made = FreightRater.class.getDeclaredConstructors();
        CHECK.is("constructors", 1, () -> made.length);
        CHECK.is("constructor without arguments", 0, () -> made[0].getParameterCount());
        CHECK.is("public constructor", Modifier.PUBLIC, () -> made[0].getModifiers());
        CHECK.is("public final class", Modifier.PUBLIC | Modifier.FINAL, () -> FreightRater.class.getModifiers());
        for (Field field : FreightRater.class.getDeclaredFields()) {
            CHECK.is("private " + field, Modifier.PRIVATE, () -> field.getModifiers() & 7);
        }
        List<Class<?>> all = new ArrayList<>(List.of(FreightRater.class.getDeclaredClasses()));
        for (Class<?> inner : all) {
            CHECK.is("static " + inner, Modifier.STATIC, () -> inner.getModifiers() & Modifier.STATIC);
            CHECK.is("not public " + inner, 0, () -> inner.getModifiers() & (Modifier.PUBLIC | Modifier.PROTECTED));
            fields(inner);
        }
        CHECK.is("some twelve classes", 0, () -> all.size() > 11 ? all.size() : 0);
        all.add(FreightRater.class);
        for (Class<?> one : all) {
            for (Method method : one.getDeclaredMethods()) {
                boolean isFace = Modifier.isPublic(method.getModifiers()) && one == FreightRater.class;
                CHECK.is("no name of the face for " + method, 0, () -> !isFace && names.contains(method.getName()) ? 1 : 0);
                CHECK.is("at most seven parameters " + method, 0, () -> method.getParameterCount() > 7 ? 1 : 0);
            }
        }
    }

    private static void fields(Class<?> inner) {
        int count = 0;
        for (Field field : inner.getDeclaredFields()) {
            count += Modifier.isStatic(field.getModifiers()) ? 0 : 1;
            CHECK.is("static is final: " + field, 0,
                    () -> Modifier.isStatic(field.getModifiers()) && !Modifier.isFinal(field.getModifiers()) ? 1 : 0);
        }
        int fields = count;
        CHECK.is("some twenty fields in " + inner, 0, () -> fields > 20 ? fields : 0);
    }

    private static String described(Method method) {
        StringBuilder text = new StringBuilder(method.getReturnType() + " " + method.getName() + "(");
        for (Class<?> type : method.getParameterTypes()) {
            text.append(text.charAt(text.length() - 1) == '(' ? "" : ",").append(type);
        }
        text.append(')');
        for (Class<?> thrown : method.getExceptionTypes()) {
            text.append(' ').append(thrown.getSimpleName().replace("Exception", ""));
        }
        return text.toString();
    }

    private static String difference(Set<String> got, Set<String> due) {
        Set<String> less = new TreeSet<>(due);
        Set<String> more = new TreeSet<>(got);
        less.removeAll(got);
        more.removeAll(due);
        return "missing " + less + ", too many " + more;
    }

    private static void language(String source) {
        String code = source.replaceAll("(?s)/\\*.*?\\*/", "").replaceAll("//[^\n]*", "").replaceAll("\"[^\"\n]*\"", "\"\"");
        String[] banned = {"->", "::", "\\bcatch\\b", "\\btry\\b", "\\bfinally\\b", "\\bsynchronized\\b", "\\bassert\\b",
            "\\bpackage\\b", "\\bstatic\\s*\\{", "\\binstanceof\\b", "\\bfloat\\b", "\\bequals\\b", "\\bhashCode\\b",
            "\\btoString\\b", "\\bObject\\b", "\\bMap\\b", "\\bSystem\\b(?!\\.arraycopy)", "Exact\\b", "\\bvar\\b", "\\brecord\\b"};
        for (String word : banned) {
            CHECK.is("without " + word, 0, () -> Pattern.compile(word).matcher(code).find() ? 1 : 0);
        }
        Set<String> imports = new TreeSet<>();
        Matcher matcher = Pattern.compile("import ([^;]*);").matcher(code);
        while (matcher.find()) {
            imports.add(matcher.group(1));
        }
        Set<String> allowed = Set.of("java.util.ArrayList", "java.util.List", "java.util.Arrays", "java.util.Iterator",
                "java.util.NoSuchElementException");
        CHECK.is("imports " + imports, 0, () -> allowed.containsAll(imports) ? 0 : 1);
        CHECK.is("characters 1 to 127", 0, () -> source.chars().anyMatch(c -> c < 1 || c > 127) ? 1 : 0);
        methodsAreShort(source.split("\n"));
    }

    private static void methodsAreShort(String[] lines) {
        int from = 0;
        for (int i = 0; i < lines.length; i++) {
            if (lines[i].matches(" {4}( {4})?[A-Za-z].*[({,]") && !lines[i].contains(" class ")) {
                from = i;
            }
            if (lines[i].matches(" {4}( {4})?}")) {
                int length = i - from + 1;
                CHECK.is("short method at line " + (from + 1), 0, () -> length > 60 ? length : 0);
            }
        }
    }
}
