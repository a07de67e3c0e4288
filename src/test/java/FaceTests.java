import java.io.IOException;
import java.lang.reflect.Constructor;
import java.lang.reflect.Field;
import java.lang.reflect.Method;
import java.lang.reflect.Modifier;
import java.nio.file.Files;
import java.nio.file.Path;
import java.util.ArrayList;
import java.util.Arrays;
import java.util.List;
import java.util.regex.Pattern;

/** The public face, and the rules of ../shared/LANGUAGE.md that can be seen from outside or in the text. */
public final class FaceTests {
    private static final Path SOURCE = Path.of("src/main/java/SnowSites.java");
    private static final String INDEX = "IndexOutOfBoundsException";
    private static final String ARGUMENT = "IllegalArgumentException";
    private static final String STATE = "IllegalStateException";
    private static final String[] METHODS = {
        "int addSnow(int) " + ARGUMENT + " " + STATE,
        "int press(int,int) " + ARGUMENT + " " + STATE,
        "int stack(int,int) " + INDEX + " " + ARGUMENT + " " + STATE,
        "int setWall(int,boolean) " + INDEX,
        "int addTool(int) " + ARGUMENT + " " + STATE,
        "int carve(int,int,int,int) " + INDEX + " " + ARGUMENT + " " + STATE,
        "int recycle()",
        "int hour(boolean)",
        "int ballot(int,int,int) " + ARGUMENT + " " + STATE,
        "int clearBallots()",
        "int block(int,int,int) " + INDEX + " " + ARGUMENT,
        "int site(int,int) " + INDEX + " " + ARGUMENT,
        "int tool(int,int) " + INDEX + " " + ARGUMENT,
        "int whole(int) " + ARGUMENT,
        "int rounds()",
        "int votes(int,int) " + ARGUMENT + " " + INDEX,
        "int winner()",
        "int reason(int,int,int,int) " + INDEX + " " + ARGUMENT,
        "int volumeIn(int,int) " + INDEX + " " + ARGUMENT,
        "int goneIn(int) " + INDEX,
        "int bestWall()",
        "int minutesFor(int,int) " + INDEX + " " + ARGUMENT,
        "int type(int) " + ARGUMENT + " " + STATE,
        "int clearOrders()",
        "int runOrders()",
        "int undo() " + STATE,
        "long digest()"};
    private static final String[] RULED_OUT = {"import ", "->", "::", "\\btry\\b", "\\bcatch\\b", "\\bfinally\\b",
        "\\bsynchronized\\b", "\\bassert\\b", "\\bpackage\\b", "\\.equals\\(", "hashCode", "toString", "\" \\+", "\\+ \""};

    private FaceTests() {
    }

    public static void main(String[] args) throws IOException {
        theMembers();
        theOrder();
        theNames();
        theText();
        Checks.finish();
    }

    private static String signature(Method method) {
        StringBuilder text = new StringBuilder();
        text.append(method.getReturnType().getSimpleName()).append(' ').append(method.getName()).append('(');
        List<String> kinds = new ArrayList<>();
        for (Class<?> kind : method.getParameterTypes()) {
            kinds.add(kind.getSimpleName());
        }
        text.append(String.join(",", kinds)).append(')');
        for (Class<?> thrown : method.getExceptionTypes()) {
            text.append(' ').append(thrown.getSimpleName());
        }
        return text.toString();
    }

    private static void theMembers() {
        List<String> open = new ArrayList<>();
        for (Method method : SnowSites.class.getDeclaredMethods()) {
            if (!Modifier.isPrivate(method.getModifiers()) && !method.isSynthetic()) {
                Checks.is("public and of the object: " + method.getName(), method.getModifiers(), Modifier.PUBLIC);
                open.add(signature(method));
            }
        }
        String[] due = METHODS.clone();
        Arrays.sort(due);
        open.sort(null);
        Checks.is("the methods of the face", open.toString(), Arrays.toString(due));
        List<String> fields = new ArrayList<>();
        for (Field field : SnowSites.class.getDeclaredFields()) {
            if (!Modifier.isPrivate(field.getModifiers()) && !field.isSynthetic()) {
                fields.add(Modifier.toString(field.getModifiers()) + " " + field.getType() + " " + field.getName());
            }
        }
        Checks.is("the constants of the face", fields.toString(), "[public static final int NONE]");
        Constructor<?>[] made = SnowSites.class.getDeclaredConstructors();
        Checks.is("constructors", made.length, 1);
        Checks.is("of no parameters, public", made[0].getParameterCount() + made[0].getModifiers(), Modifier.PUBLIC);
        Checks.is("the class", SnowSites.class.getModifiers(), Modifier.PUBLIC | Modifier.FINAL);
        Checks.is("its interfaces", SnowSites.class.getInterfaces().length, 0);
    }

    /** "Ahead of the calls [..] the interface says: ----": the class has the same groups, in the same order. */
    private static void theOrder() throws IOException {
        List<List<String>> due = Groups.ofTheDocument();
        int named = 0;
        for (List<String> group : due) {
            named += group.size() - 1;
        }
        Checks.is("all methods of the face are in a group", named, METHODS.length);
        List<List<String>> got = Groups.of(SOURCE, "^    // ---- (.*)$", "^    public (?:int|long) (\\w+)\\(");
        Checks.is("what the class says ahead of its calls", got.toString(), due.toString());
    }

    /** Rule 1: no private method bears the name of a public one; rule 2: the classes inside are static. */
    private static void theNames() {
        for (Method method : SnowSites.class.getDeclaredMethods()) {
            boolean hidden = Modifier.isPrivate(method.getModifiers());
            Checks.is("name of " + method.getName(), hidden && isOfTheFace(method) ? 1 : 0, 0);
            Checks.is("parameters of " + method.getName(), method.getParameterCount() <= 7 ? 1 : 0, 1);
        }
        Class<?>[] inside = SnowSites.class.getDeclaredClasses();
        Checks.is("at most twelve classes", inside.length <= 12 ? 1 : 0, 1);
        for (Class<?> one : inside) {
            Checks.is("static: " + one.getSimpleName(), Modifier.isStatic(one.getModifiers()) ? 1 : 0, 1);
            Checks.is("not open: " + one.getSimpleName(), Modifier.isPublic(one.getModifiers()) ? 1 : 0, 0);
            Checks.is("fields: " + one.getSimpleName(), one.getDeclaredFields().length <= 20 ? 1 : 0, 1);
            for (Method method : one.getDeclaredMethods()) {
                Checks.is("name inside: " + method.getName(), isOfTheFace(method) ? 1 : 0, 0);
                Checks.is("parameters of " + method.getName(), method.getParameterCount() <= 7 ? 1 : 0, 1);
            }
        }
    }

    private static boolean isOfTheFace(Method method) {
        boolean found = false;
        for (String due : METHODS) {
            found |= due.contains(" " + method.getName() + "(");
        }
        return found;
    }

    private static void theText() throws IOException {
        for (String line : Files.readAllLines(SOURCE)) {
            for (String pattern : RULED_OUT) {
                if (Pattern.compile(pattern).matcher(line).find()) {
                    Checks.is("ruled out by LANGUAGE.md: " + line, 1, 0);
                }
            }
            for (int i = 0; i < line.length(); i++) {
                if (line.charAt(i) < 32 || line.charAt(i) > 126) {
                    Checks.is("a sign outside 32 to 126: " + line, 1, 0);
                }
            }
        }
    }
}
