import java.io.IOException;
import java.lang.reflect.Constructor;
import java.lang.reflect.Field;
import java.lang.reflect.Method;
import java.lang.reflect.Modifier;
import java.nio.file.Files;
import java.nio.file.Path;
import java.util.Arrays;
import java.util.Set;
import java.util.TreeSet;
import java.util.regex.Pattern;

/** The class has the document's face and nothing beside it, and its source leaves out what LANGUAGE.md does. */
public final class LanguageTest {
    private static final Check check = new Check("LanguageTest");
    private static final String[] FACE = {
        "int pass(int)", "int alarm(int,int,int,int)", "int silence(int,int,int)", "boolean set(int,int)",
        "int verdict(int,int,boolean)", "boolean tie(int,int,boolean)", "int told(int,int)",
        "int node(int,int,int)", "int odds(int,int)", "int order(int)", "int caseOf(int,int)", "int slow(int)",
        "int plan(int,int)", "int worth(int,int)", "int source(int,int)", "int count(int)",
    };
    private static final String[] LEFT_OUT = {
        "\\b(throw|throws|try|catch|finally|synchronized|assert|import|package|native|volatile|transient)\\b",
        "->", "::", "\\bhashCode\\b", "\\btoString\\b", "\\bequals\\b", "\\bException\\b", "Exact\\b",
        "\\bSystem\\b", "\\bThread\\b", "\\bprotected\\b", "\\bObject\\b", "\\bvar\\b", "\\bgoto\\b",
    };

    public static void main(String[] args) throws IOException {
        face();
        classesInside();
        source();
        check.end();
    }

    private static void face() {
        Class<?> it = CryOrder.class;
        check.due("the class is public and final",
                Modifier.isPublic(it.getModifiers()) && Modifier.isFinal(it.getModifiers()), true);
        Set<String> seen = new TreeSet<>();
        Set<String> publicNames = new TreeSet<>();
        for (Method m : it.getDeclaredMethods()) {
            if (Modifier.isPublic(m.getModifiers())) {
                seen.add(m.getReturnType().getName() + " " + m.getName() + params(m.getParameterTypes()));
                publicNames.add(m.getName());
                check.due(m.getName() + " is no static one", Modifier.isStatic(m.getModifiers()), false);
            }
        }
        check.due("the methods are " + seen, seen.equals(new TreeSet<>(Arrays.asList(FACE))), true);
        for (Method m : it.getDeclaredMethods()) {
            if (!Modifier.isPublic(m.getModifiers())) {
                check.due(m.getName() + " is private", Modifier.isPrivate(m.getModifiers()), true);
                check.due(m.getName() + " bears a public name", publicNames.contains(m.getName()), false);
            }
        }
        for (Field f : it.getDeclaredFields()) {
            boolean isNone = f.getName().equals("NONE");
            check.due(f.getName() + " is public", Modifier.isPublic(f.getModifiers()), isNone);
            check.due(f.getName() + " is private", Modifier.isPrivate(f.getModifiers()), !isNone);
            if (Modifier.isStatic(f.getModifiers())) {
                check.due(f.getName() + " is final", Modifier.isFinal(f.getModifiers()), true);
            }
        }
        Constructor<?>[] made = it.getDeclaredConstructors();
        check.due("constructors", made.length, 1);
        check.due("the constructor takes", made[0].getParameterCount(), 0);
        check.due("the constructor is public", Modifier.isPublic(made[0].getModifiers()), true);
    }

    private static String params(Class<?>[] types) {
        StringBuilder text = new StringBuilder("(");
        for (Class<?> type : types) {
            text.append(text.length() > 1 ? "," : "").append(type.getName());
        }
        return text.append(")").toString();
    }

    private static void classesInside() {
        Class<?>[] inside = CryOrder.class.getDeclaredClasses();
        check.due("at most twelve classes", inside.length < 12, true);
        for (Class<?> each : inside) {
            check.due(each.getName() + " is static", Modifier.isStatic(each.getModifiers()), true);
            check.due(each.getName() + " is public", Modifier.isPublic(each.getModifiers()), false);
            check.due(each.getName() + " has few fields", each.getDeclaredFields().length <= 20, true);
            for (Method m : each.getDeclaredMethods()) {
                check.due(m.getName() + " has few parameters", m.getParameterCount() <= 7, true);
            }
        }
    }

    private static void source() throws IOException {
        String text = Files.readString(Path.of("src/main/java/CryOrder.java"));
        String code = text.replaceAll("(?s)/\\*.*?\\*/", "").replaceAll("//[^\n]*", "");
        for (String pattern : LEFT_OUT) {
            check.due("the source has " + pattern, Pattern.compile(pattern).matcher(code).find(), false);
        }
        check.due("the source is plain ASCII", text.chars().allMatch(c -> c < 128), true);
    }
}
