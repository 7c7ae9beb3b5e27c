import java.io.IOException;
import java.lang.reflect.Constructor;
import java.lang.reflect.Field;
import java.lang.reflect.Member;
import java.lang.reflect.Method;
import java.lang.reflect.Modifier;
import java.nio.file.Files;
import java.nio.file.Path;
import java.util.Arrays;
import java.util.Set;
import java.util.TreeSet;
import java.util.regex.Matcher;
import java.util.regex.Pattern;

/** The public face, and those rules of LANGUAGE.md that can be told from the class and its text. */
public final class FaceTest {
    private static final String[] METHODS = {
        "int set(int,int)", "int read()", "int pave(int,int,boolean)", "int tear(int)", "int begin()",
        "int march(int)", "int line(int,int)", "int foot(int,int,int)", "int stretch(int,int)", "int walk(int)",
        "int count(int)", "int untilWalked(int)", "int together()", "int meets(int,int)", "int leastBreath()",
        "int bestPause()", "int put(long)", "int wipe()", "int fault()", "int undo()", "int save(int)",
        "int restore(int)"};
    private static final String[] CONSTANTS = {
        "NO_SUCH=-1", "BAD_VALUE=-2", "BAD_TEXT=-3", "TOO_MANY=-4", "NOT_POSSIBLE=-5", "NONE=-6",
        "TEMPO=0", "PAUSE=1", "GASP=2", "REST=3", "BREATH=4", "MUD=5"};
    private static final String[] FORBIDDEN = {
        "throw", "throws", "try", "catch", "finally", "synchronized", "assert", "import", "package", "static \\{",
        "->", "::", "Exact\\(", "System", "Thread", "Random", "equals", "hashCode", "toString", "Object"};

    private FaceTest() {
    }

    private static boolean isHidden(Member member) {
        return Modifier.isPrivate(member.getModifiers());
    }

    private static void methodsAreTheDocuments() {
        Set<String> found = new TreeSet<>();
        Set<String> names = new TreeSet<>();
        for (Method method : MarchMetres.class.getDeclaredMethods()) {
            if (!isHidden(method)) {
                String types = Arrays.toString(method.getParameterTypes()).replaceAll("[\\[\\] ]", "");
                found.add(method.getReturnType() + " " + method.getName() + "(" + types + ")");
                names.add(method.getName());
                Checks.due("public " + method, Modifier.isPublic(method.getModifiers()) ? 1 : 0, 1);
                Checks.due("not static " + method, Modifier.isStatic(method.getModifiers()) ? 1 : 0, 0);
            }
        }
        Checks.same("the methods", found.toString(), new TreeSet<>(Arrays.asList(METHODS)).toString());
        noOtherBearsTheNames(MarchMetres.class, names, true);
        for (Class<?> inside : MarchMetres.class.getDeclaredClasses()) {
            noOtherBearsTheNames(inside, names, false);
        }
    }

    private static void noOtherBearsTheNames(Class<?> type, Set<String> names, boolean isOuter) {
        for (Method method : type.getDeclaredMethods()) {
            boolean isFace = isOuter && !isHidden(method);
            Checks.due("the name of " + method, !isFace && names.contains(method.getName()) ? 1 : 0, 0);
        }
    }

    private static void constantsAreTheDocuments() throws IllegalAccessException {
        Set<String> found = new TreeSet<>();
        for (Field field : MarchMetres.class.getDeclaredFields()) {
            if (!isHidden(field)) {
                Checks.due("final " + field, field.getModifiers(), Modifier.PUBLIC | Modifier.STATIC | Modifier.FINAL);
                found.add(field.getName() + "=" + field.getInt(null));
            }
            if (Modifier.isStatic(field.getModifiers())) {
                Checks.due("final " + field, Modifier.isFinal(field.getModifiers()) ? 1 : 0, 1);
            }
        }
        Checks.same("the constants", found.toString(), new TreeSet<>(Arrays.asList(CONSTANTS)).toString());
    }

    private static void classesAreAsTheRulesSay() {
        int modifiers = MarchMetres.class.getModifiers();
        Checks.due("public final class", modifiers & (Modifier.PUBLIC | Modifier.FINAL), Modifier.PUBLIC | Modifier.FINAL);
        Constructor<?>[] constructors = MarchMetres.class.getDeclaredConstructors();
        Checks.due("constructors", constructors.length, 1);
        Checks.due("its parameters", constructors[0].getParameterCount(), 0);
        Checks.due("it is public", Modifier.isPublic(constructors[0].getModifiers()) ? 1 : 0, 1);
        Class<?>[] inside = MarchMetres.class.getDeclaredClasses();
        Checks.due("at most twelve classes", inside.length < 12 ? 1 : 0, 1);
        for (Class<?> type : inside) {
            int others = type.getModifiers();
            Checks.due("static " + type, Modifier.isStatic(others) ? 1 : 0, 1);
            Checks.due("hidden " + type, Modifier.isPublic(others) || Modifier.isProtected(others) ? 1 : 0, 0);
        }
    }

    private static void textHoldsNothingForbidden() throws IOException {
        String text = Files.readString(Path.of("src/main/java/MarchMetres.java"));
        String code = text.replaceAll("(?s)/\\*.*?\\*/", " ").replaceAll("//[^\n]*", " ");
        for (String word : FORBIDDEN) {
            String bounded = Character.isLetter(word.charAt(0)) && word.matches("\\w+") ? "\\b" + word + "\\b" : word;
            Matcher matcher = Pattern.compile(bounded).matcher(code);
            Checks.due("forbidden: " + word, matcher.find() ? 1 : 0, 0);
        }
        for (char c : text.toCharArray()) {
            if (c > 126 || c < 32 && c != '\n') {
                Checks.due("a character outside ASCII", c, ' ');
            }
        }
    }

    public static void main(String[] args) throws IOException, IllegalAccessException {
        methodsAreTheDocuments();
        constantsAreTheDocuments();
        classesAreAsTheRulesSay();
        textHoldsNothingForbidden();
        Checks.end("FaceTest");
    }
}
