import java.io.IOException;
import java.lang.reflect.Constructor;
import java.lang.reflect.Field;
import java.lang.reflect.Method;
import java.lang.reflect.Modifier;
import java.nio.file.Files;
import java.nio.file.Path;
import java.util.Arrays;
import java.util.Set;
import java.util.TreeSet;
import java.util.regex.Matcher;
import java.util.regex.Pattern;

/** The public face of the document, no more and no less; and what of ../shared/LANGUAGE.md can be seen in the source. */
public final class FaceTest {
    private static final Check check = new Check();
    private static final String[] FACE = {
        "int feed(int, int, int, int, int)", "int end(int)", "int classes()", "int fault(int)", "int about(int, int)", "int member(int, int, int)", "int model(int, int)", "int clear()", "int make(int)",
        "int call(int, int, int, int, int)", "int run()", "int draw(int, int, int)", "int all(int, int)", "int tried()", "int cut()", "int shrink()", "int verdict()", "int condition(int)", "int changed(int)",
        "int thrown(int)", "int row()", "int told(int, int)", "long cell(int, int)", "long beside(int, int)", "int count(int)"};

    public static void main(String[] args) throws IOException {
        constants();
        methods();
        nothingElse();
        words();
        sizes();
        check.end();
    }

    private static void constants() {
        check.sentence("The constants: NONE = -1, RANGE = -2, FULL = -3");
        check.is("NONE", TrialGarden.NONE, -1);
        check.is("RANGE", TrialGarden.RANGE, -2);
        check.is("FULL", TrialGarden.FULL, -3);
        Set<String> names = new TreeSet<>();
        for (Field field : TrialGarden.class.getDeclaredFields()) {
            if (!Modifier.isPrivate(field.getModifiers())) {
                names.add(Modifier.toString(field.getModifiers()) + " " + field.getType() + " " + field.getName());
            }
        }
        check.same("no others", names.toString(), "[public static final int FULL, public static final int NONE, public static final int RANGE]");
    }

    private static void methods() {
        check.sentence("The public face: public final class TrialGarden, its constructor and methods");
        Class<?> face = TrialGarden.class;
        check.same("the class", Modifier.toString(face.getModifiers()), "public final");
        check.same("without a package", face.getPackageName(), "");
        Constructor<?>[] constructors = face.getDeclaredConstructors();
        check.is("one constructor", constructors.length, 1);
        check.same("public, without params", Modifier.toString(constructors[0].getModifiers()) + constructors[0].getParameterCount(), "public0");
        Set<String> due = new TreeSet<>(Arrays.asList(FACE));
        Set<String> got = new TreeSet<>();
        for (Method method : face.getDeclaredMethods()) {
            if (!Modifier.isPrivate(method.getModifiers()) && !method.isSynthetic()) {
                check.same(method.getName(), Modifier.toString(method.getModifiers()), "public");
                String params = Arrays.toString(method.getParameterTypes());
                got.add(method.getReturnType() + " " + method.getName() + "(" + params.substring(1, params.length() - 1) + ")");
            }
        }
        check.same("its methods", got.toString(), due.toString());
    }

    private static void nothingElse() {
        check.sentence("LANGUAGE 1: classes inside are private or package-visible and static; no private method bears the name of a public one");
        Set<String> names = new TreeSet<>();
        for (String method : FACE) {
            names.add(method.substring(method.indexOf(' ') + 1, method.indexOf('(')));
        }
        for (Method method : TrialGarden.class.getDeclaredMethods()) {
            if (Modifier.isPrivate(method.getModifiers())) {
                check.is(method.getName() + " is a public one's name", names.contains(method.getName()) ? 1 : 0, 0);
            }
        }
        for (Class<?> inside : TrialGarden.class.getDeclaredClasses()) {
            int modifiers = inside.getModifiers();
            check.is(inside.getName() + " is static", Modifier.isStatic(modifiers) ? 1 : 0, 1);
            check.is(inside.getName() + " is not public", Modifier.isPublic(modifiers) || Modifier.isProtected(modifiers) ? 1 : 0, 0);
        }
    }

    private static String source() throws IOException {
        String text = Files.readString(Path.of("src/main/java/TrialGarden.java"));
        text = text.replaceAll("(?s)/\\*.*?\\*/", " ").replaceAll("//[^\n]*", " ");
        return text.replaceAll("\"[^\"\n]*\"", "TEXT").replaceAll("'(\\\\.|[^'])'", "SIGN");
    }

    private static void words() throws IOException {
        check.sentence("LANGUAGE 2 to 7, 13: no word or sign that they rule out");
        String source = source();
        String[] ruledOut = {"throw", "try", "catch", "finally", "synchronized", "assert", "import", "package", "volatile", "transient", "native", "Object", "hashCode", "toString", "getClass", "Thread", "Random", "Exact"};
        for (String word : ruledOut) {
            check.is(word, Pattern.compile("\\b" + word + "\\b").matcher(source).find() ? 1 : 0, 0);
        }
        for (String sign : new String[] {"->", "::", "@", "static {", "Exact("}) {
            check.is(sign, source.contains(sign) ? 1 : 0, 0);
        }
        Matcher library = Pattern.compile("\\b(System|Arrays|Math|Integer|Long)\\.(\\w+)").matcher(source);
        while (library.find()) {
            check.is(library.group(), Set.of("System.arraycopy", "Math.max", "Math.min", "Math.abs", "Integer.MIN_VALUE", "Integer.MAX_VALUE", "Long.MIN_VALUE", "Arrays.fill").contains(library.group()) ? 1 : 0, 1);
        }
    }

    private static void sizes() throws IOException {
        check.sentence("LANGUAGE 11: a method takes at most seven parameters, methods stay short (some sixty lines), some twelve classes, some twenty fields a class");
        String source = source();
        Matcher params = Pattern.compile("\\b\\w+(?:\\[\\])* \\w+\\(([^()]*)\\) \\{").matcher(source);
        while (params.find()) {
            check.is("params in " + params.group(), params.group(1).split(",").length <= 7 ? 1 : 0, 1);
        }
        int start = 0;
        int number = 0;
        for (String line : source.split("\n")) {
            number++;
            start = line.matches("( {4}| {8})(public |private |static |final )*[\\w\\[\\]]+( \\w+)?\\([^;]*\\) \\{") ? number : start;
            if (line.matches("( {4}| {8})\\}") && start > 0) {
                check.is("lines of the method at " + start, number - start <= 62 ? 1 : 0, 1);
                start = 0;
            }
        }
        Class<?>[] inside = TrialGarden.class.getDeclaredClasses();
        check.is("classes", inside.length <= 12 ? 1 : 0, 1);
        for (Class<?> one : inside) {
            long fields = Arrays.stream(one.getDeclaredFields()).filter(f -> !Modifier.isStatic(f.getModifiers())).count();
            check.is("fields of " + one.getName(), fields <= 20 ? 1 : 0, 1);
        }
    }
}
