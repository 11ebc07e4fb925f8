import java.lang.reflect.Constructor;
import java.lang.reflect.Field;
import java.lang.reflect.Method;
import java.lang.reflect.Modifier;
import java.nio.file.Files;
import java.nio.file.Path;
import java.util.ArrayList;
import java.util.Arrays;
import java.util.List;
import java.util.TreeSet;
import java.util.regex.Matcher;
import java.util.regex.Pattern;

/** The public face, and those rules of LANGUAGE.md that can be seen from outside or word by word. */
public final class FaceTest {
    private static final String[] METHODS = {
        "int append(int) ArgumentState", "int clearText() ", "int errorPosition() ", "int load() State",
        "int about(int) Argument", "int ownerOf(int,int) BoundsArgument", "int weekOf(int,int) BoundsArgument",
        "int bidOf(int,int) Bounds", "int offerOf(int,int) BoundsArgument", "int owner(int) ArgumentState",
        "int cost(int,int) BoundsArgument", "int school(int,boolean) Bounds", "int take(int,int) Bounds",
        "int release(int,int) BoundsState", "int bid(int,int,int) BoundsArgumentState", "int settle() ",
        "int offer(int,int,int) BoundsState", "int accept(int) Bounds", "int upkeep(int) ArgumentState",
        "int year() ", "int set(int,int) Argument", "int undo() State", "int why(int,int) Bounds",
        "int could(int) Argument", "int winner(int) Bounds", "int leastBid(int,int) Bounds",
        "int ifUpkeep(int,int) BoundsArgument", "int runScript(int,long) Argument", "int simulate(long,int) Argument",
        "int save(int) Bounds", "int restore(int) BoundsState"
    };
    private static final String[] FORBIDDEN = {
        "->", "::", "\\bfinally\\b", "\\bsynchronized\\b", "\\bassert\\b", "\\bcatch\\b", "\\bRandom\\b",
        "currentTimeMillis", "nanoTime", "\\bThread\\b", "\\bSystem\\.(?!arraycopy)", "Exact\\(", "\\bstatic\\s*\\{",
        "\\bMap\\b", "\\bSet\\b", "\\bString\\.format", "\\+=? *\"", "\" *\\+", "\\bequals\\(", "hashCode", "toString"
    };

    private static final String METHOD_BEGINS =
        "( {4}| {8})(?!if|for|while|switch|return|throw)\\w[^=]*\\([^=;]*[{)]";

    public static void main(String[] args) throws Exception {
        Check check = new Check();
        checkMethods(check);
        checkOthers(check);
        checkPrivateNames(check);
        checkSource(check);
        checkSizes(check);
        check.end();
    }

    private static void checkMethods(Check check) {
        TreeSet<String> open = new TreeSet<>();
        for (Method m : CottageWeeks.class.getDeclaredMethods()) {
            if (!Modifier.isPrivate(m.getModifiers())) {
                check.due(m.getName() + " is public and of an object", Modifier.PUBLIC, m.getModifiers());
                open.add(told(m));
            }
        }
        check.due("the methods", new TreeSet<>(Arrays.asList(METHODS)), open);
    }

    private static String told(Method m) {
        StringBuilder row = new StringBuilder();
        row.append(m.getReturnType().getName()).append(' ').append(m.getName()).append('(');
        List<String> types = new ArrayList<>();
        for (Class<?> type : m.getParameterTypes()) {
            types.add(type.getName());
        }
        row.append(String.join(",", types)).append(") ");
        for (Class<?> thrown : m.getExceptionTypes()) {
            row.append(thrown.getSimpleName().replaceAll("IndexOutOf|Illegal|Exception", ""));
        }
        return row.toString();
    }

    private static void checkOthers(Check check) throws Exception {
        check.due("the class", Modifier.PUBLIC | Modifier.FINAL, CottageWeeks.class.getModifiers());
        check.due("NONE", -1, CottageWeeks.NONE);
        for (Field f : CottageWeeks.class.getDeclaredFields()) {
            boolean isNone = f.getName().equals("NONE");
            int none = Modifier.PUBLIC | Modifier.STATIC | Modifier.FINAL;
            check.due("field " + f.getName(), isNone, f.getModifiers() == none);
            check.due("private field " + f.getName(), !isNone, Modifier.isPrivate(f.getModifiers()));
        }
        Constructor<?>[] constructors = CottageWeeks.class.getDeclaredConstructors();
        check.due("constructors", 1, constructors.length);
        check.due("constructor", Modifier.PUBLIC, constructors[0].getModifiers());
        check.due("its parameters", 0, constructors[0].getParameterCount());
        for (Class<?> inside : CottageWeeks.class.getDeclaredClasses()) {
            int bits = inside.getModifiers() & (Modifier.PUBLIC | Modifier.PROTECTED | Modifier.STATIC);
            check.due("class " + inside.getName(), Modifier.STATIC, bits);
            int own = 0;
            for (Field f : inside.getDeclaredFields()) {
                own += Modifier.isStatic(f.getModifiers()) ? 0 : 1;
            }
            check.due("fields of " + inside.getName() + ", 20 at most", true, own <= 20);
        }
    }

    private static void checkPrivateNames(Check check) {
        TreeSet<String> open = new TreeSet<>();
        for (String row : METHODS) {
            open.add(row.replaceAll("int (\\w+)\\(.*", "$1"));
        }
        for (Class<?> inside : CottageWeeks.class.getDeclaredClasses()) {
            for (Method m : inside.getDeclaredMethods()) {
                check.due(m + " has a name of the face", false, open.contains(m.getName()));
            }
        }
        for (Method m : CottageWeeks.class.getDeclaredMethods()) {
            if (Modifier.isPrivate(m.getModifiers())) {
                check.due(m + " has a name of the face", false, open.contains(m.getName()));
            }
        }
    }

    private static void checkSource(Check check) throws Exception {
        String source = Files.readString(Path.of("src/main/java/CottageWeeks.java"));
        String code = source.replaceAll("(?s)/\\*.*?\\*/", "").replaceAll("//[^\n]*", "");
        for (String word : FORBIDDEN) {
            Matcher found = Pattern.compile(word).matcher(code);
            check.due("the source has " + word, false, found.find());
        }
        for (String line : code.split("\n")) {
            if (line.startsWith("import")) {
                check.due("an import", "import java.util.Arrays;", line.trim());
            }
        }
        check.due("signs are 1 to 127", true, source.chars().allMatch(c -> c >= 1 && c <= 127));
    }

    /** Rule 11: classes, parameters, and the lines of a method, which ends by its indentation. */
    private static void checkSizes(Check check) throws Exception {
        Class<?>[] inside = CottageWeeks.class.getDeclaredClasses();
        check.due("classes, 12 at most", true, inside.length + 1 <= 12);
        List<Method> methods = new ArrayList<>(Arrays.asList(CottageWeeks.class.getDeclaredMethods()));
        for (Class<?> c : inside) {
            methods.addAll(Arrays.asList(c.getDeclaredMethods()));
        }
        for (Method m : methods) {
            check.due(m + " has 7 parameters at most", true, m.getParameterCount() <= 7);
        }
        String[] lines = Files.readString(Path.of("src/main/java/CottageWeeks.java")).split("\n");
        for (int i = 0; i < lines.length; i++) {
            if (lines[i].matches(METHOD_BEGINS)) {
                String end = lines[i].replaceAll("\\w.*", "}");
                int last = Arrays.asList(lines).subList(i, lines.length).indexOf(end);
                check.due("the method of line " + (i + 1) + " has 60 lines at most", true, last > 0 && last < 60);
            }
        }
    }
}
