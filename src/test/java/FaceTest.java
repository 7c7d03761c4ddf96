import java.io.IOException;
import java.lang.reflect.Constructor;
import java.lang.reflect.Field;
import java.lang.reflect.Method;
import java.lang.reflect.Modifier;
import java.nio.file.Files;
import java.nio.file.Path;
import java.util.Arrays;
import java.util.Set;
import java.util.TreeSet;
import java.util.regex.Pattern;

/** The public face of the document, and those rules of LANGUAGE.md that can be seen from outside. */
public final class FaceTest {
    private static final String[] METHODS = {
        "int row(int,int,int,int)", "int ofHelper(int,int)", "long at(int,int)", "int add(int,int,long)",
        "int cap(int,int,long)", "int floor(int,int,long)", "int help(int,int,int,int)", "int fresh()",
        "long day(int,int,int,int,int)", "long ask(int,int,int)", "long ofSpan(int,int)", "int looks(int,int,long)",
        "int unlike()", "int reading(int,long)", "int back(int)", "int kinds(int)", "int paces(int)",
        "long odds(int,int,long,int)", "int sheet(int,int,int)", "int lose(int)", "int put(int,int,int)",
        "long cell(int,int,int)", "int copy(int,int,int,int,int)", "int tell(int)", "int cheer(int)",
        "int as(int,int)", "int trace()", "int fault()", "int many(int)"};
    private static final String[] NEVER = {
        "\\bthrow\\b", "\\bthrows\\b", "\\btry\\b", "\\bcatch\\b", "\\bsynchronized\\b", "\\bassert\\b", "->", "::",
        "Exact\\b", "\\bObject\\b", "\\bpackage\\b", "\\bprotected\\b", "\\bvar\\b", "\\bthis\\s*\\)"};

    public static void main(String[] args) throws IOException {
        methods();
        constants();
        constructor();
        classesInside();
        source();
        everyPromiseHasItsTest();
        Due.end("FaceTest");
    }

    private static String signature(Method method) {
        StringBuilder text = new StringBuilder(method.getReturnType().getSimpleName());
        text.append(' ').append(method.getName()).append('(');
        for (int p = 0; p < method.getParameterCount(); p++) {
            text.append(p == 0 ? "" : ",").append(method.getParameterTypes()[p].getSimpleName());
        }
        return text.append(')').toString();
    }

    private static void methods() {
        Set<String> due = new TreeSet<>(Arrays.asList(METHODS));
        Set<String> got = new TreeSet<>();
        for (Method method : CappedRow.class.getDeclaredMethods()) {
            int how = method.getModifiers();
            if (Modifier.isPublic(how)) {
                Due.isSo(method + " is no static one", !Modifier.isStatic(how));
                got.add(signature(method));
            } else {
                Due.isSo(method + " is private", Modifier.isPrivate(how));
            }
            Due.isSo(method + " takes seven at most", method.getParameterCount() <= 7);
        }
        Due.isSo("the public methods are the document's: " + got, got.equals(due));
        Due.isSo("public and final", Modifier.isPublic(CappedRow.class.getModifiers())
            && Modifier.isFinal(CappedRow.class.getModifiers()));
    }

    private static void constants() {
        Due.is("UNKNOWN", CappedRow.UNKNOWN, -1);
        Due.is("OUTSIDE", CappedRow.OUTSIDE, -2);
        Due.is("STATE", CappedRow.STATE, -3);
        Due.is("FULL", CappedRow.FULL, -4);
        Due.is("NONE", CappedRow.NONE, -9);
        Due.is("LOST", CappedRow.LOST, Long.MIN_VALUE);
        int open = 0;
        int own = 0;
        for (Field field : CappedRow.class.getDeclaredFields()) {
            int how = field.getModifiers();
            open += Modifier.isPublic(how) ? 1 : 0;
            own += Modifier.isStatic(how) ? 0 : 1;
            Due.isSo(field + " is public or private", Modifier.isPublic(how) || Modifier.isPrivate(how));
            Due.isSo(field + " is final, if static", !Modifier.isStatic(how) || Modifier.isFinal(how));
        }
        Due.is("public constants", open, 6);
        Due.isSo("fields", own <= 20);
    }

    private static void constructor() {
        Constructor<?>[] all = CappedRow.class.getDeclaredConstructors();
        Due.is("constructors", all.length, 1);
        Due.isSo("public, of nothing", Modifier.isPublic(all[0].getModifiers()) && all[0].getParameterCount() == 0);
    }

    private static void classesInside() {
        Set<String> face = new TreeSet<>();
        for (String method : METHODS) {
            face.add(method.substring(method.indexOf(' ') + 1, method.indexOf('(')));
        }
        for (Method method : CappedRow.class.getDeclaredMethods()) {
            Due.isSo(method + " bears no public one's name",
                Modifier.isPublic(method.getModifiers()) || !face.contains(method.getName()));
        }
        Class<?>[] inside = CappedRow.class.getDeclaredClasses();
        Due.isSo("twelve classes at most", inside.length < 12);
        for (Class<?> one : inside) {
            int how = one.getModifiers();
            Due.isSo(one + " is static, not public", Modifier.isStatic(how) && !Modifier.isPublic(how));
            for (Method method : one.getDeclaredMethods()) {
                Due.isSo(method + " bears no public one's name", !face.contains(method.getName()));
            }
            for (Field field : one.getDeclaredFields()) {
                Due.isSo(field + " is no static one", !Modifier.isStatic(field.getModifiers()));
            }
        }
    }

    /** .ci/run runs what ends with Test, so a promise is tried if there is a file that bears its number. */
    private static void everyPromiseHasItsTest() throws IOException {
        String document = Files.readString(Path.of("../shared/DOC.md"));
        int promises = (int) Pattern.compile("^## Promise \\d+:", Pattern.MULTILINE).matcher(document).results().count();
        Due.is("promises", promises, 30);
        for (int p = 1; p <= promises; p++) {
            String file = String.format("src/test/java/Promise%02dTest.java", p);
            Due.isSo(file + " is there", Files.exists(Path.of(file)));
        }
    }

    private static void source() throws IOException {
        String source = Files.readString(Path.of("src/main/java/CappedRow.java"));
        Due.isSo("signs are 1 to 127", source.chars().allMatch(c -> c >= 1 && c <= 127));
        String code = Pattern.compile("//[^\n]*|/\\*.*?\\*/", Pattern.DOTALL).matcher(source).replaceAll("");
        for (String never : NEVER) {
            Due.isSo("nothing of " + never, !Pattern.compile(never).matcher(code).find());
        }
        Due.is("imports", Pattern.compile("^import (?!java\\.util\\.Arrays;)", Pattern.MULTILINE).matcher(code)
            .results().count(), 0);
        methodsAreShort(code.split("\n"));
    }

    /** A method begins with a line that ends with ") {", four or eight in, and ends with the brace below it. */
    private static void methodsAreShort(String[] lines) {
        for (int begin = 0; begin < lines.length; begin++) {
            if (!lines[begin].matches("( {4}| {8})[a-zA-Z].*\\) \\{") || lines[begin].matches(" *(if|for|switch|while).*")) {
                continue;
            }
            String brace = lines[begin].replaceAll("\\S.*", "") + "}";
            int end = begin;
            while (end < lines.length && !lines[end].equals(brace)) {
                end++;
            }
            Due.isSo(lines[begin].trim() + " has sixty lines at most", end - begin < 60);
        }
    }
}
