import java.io.IOException;
import java.lang.reflect.Field;
import java.lang.reflect.Method;
import java.lang.reflect.Modifier;
import java.nio.file.Files;
import java.nio.file.Path;
import java.util.ArrayList;
import java.util.List;
import java.util.regex.Matcher;
import java.util.regex.Pattern;

/** What can be seen of LANGUAGE.md from outside: the face, the classes inside, and words that the source must not have. */
public final class LanguageTest {
    private static final List<String> FACE = List.of(
            "int letter(int)", "int mine()", "int miner(int,int)", "int pair(int,int)", "int beams(int)",
            "int props(int,int)", "int stands(int,int)", "int adds(int,int)", "int swaps(int,int)",
            "int turn(int,int,int)", "int minutes(int)", "int pairThen(int,int,int)", "int bruisesThen(int,int)",
            "int faced(int)", "int done(int)", "int hurt(int,int)", "int begins(int)", "int clears(int)",
            "int change()", "int bestKind(int,int)", "int bestCell(int,int)", "int hum(int,int)", "int first(int)",
            "int timber(int)", "int eager()", "int two(int,int)", "long cough(int,int,int,int,int)", "long mean(int)",
            "int whatIs(int,int)", "int row(int)", "int judge()", "int clear()", "int lots(int,int,int)",
            "int image()", "int on()", "int count(int)");
    private static final String FORBIDDEN = "\\b(import|package|throw|throws|try|catch|synchronized|assert|instanceof"
            + "|double|float|Object|Random|System|Thread|var|yield|Exact|toString|hashCode|equals|volatile|native)\\b|->|::|\\+\\s*\"|\"\\s*\\+";
    private static final Due DUE = new Due();

    public static void main(String[] args) throws IOException {
        theFace();
        theClassesInside();
        theSource();
        DUE.end();
    }

    private static String told(Method method) {
        StringBuilder text = new StringBuilder(method.getReturnType().getName() + " " + method.getName() + "(");
        for (Class<?> type : method.getParameterTypes()) {
            text.append(text.charAt(text.length() - 1) == '(' ? "" : ",").append(type.getName());
        }
        return text + ")";
    }

    private static void theFace() {
        List<String> seen = new ArrayList<>();
        for (Method method : LampOfTheSilent.class.getDeclaredMethods()) {
            if (!Modifier.isPrivate(method.getModifiers())) {
                seen.add(told(method));
                DUE.is(told(method) + " is public and no more", method.getModifiers(), Modifier.PUBLIC);
            }
        }
        for (String call : FACE) {
            DUE.is("the face has " + call, seen.contains(call) ? 1 : 0, 1);
        }
        DUE.is("methods of the face", seen.size(), FACE.size());
        DUE.is("public final", LampOfTheSilent.class.getModifiers(), Modifier.PUBLIC | Modifier.FINAL);
        DUE.is("constructors", LampOfTheSilent.class.getDeclaredConstructors().length, 1);
        for (Field field : LampOfTheSilent.class.getDeclaredFields()) {
            DUE.is(field.getName() + " is private", Modifier.isPrivate(field.getModifiers()) ? 1 : 0, 1);
        }
    }

    private static void theClassesInside() {
        Class<?>[] inside = LampOfTheSilent.class.getDeclaredClasses();
        DUE.is("some twelve classes at most", inside.length < 12 ? 1 : 0, 1);
        List<String> names = new ArrayList<>();
        for (String call : FACE) {
            names.add(call.substring(call.indexOf(' ') + 1, call.indexOf('(')));
        }
        List<Class<?>> all = new ArrayList<>(List.of(inside));
        for (Class<?> one : inside) {
            DUE.is(one + " is static", Modifier.isStatic(one.getModifiers()) ? 1 : 0, 1);
            DUE.is(one + " is private", Modifier.isPrivate(one.getModifiers()) ? 1 : 0, 1);
            for (Method method : one.getDeclaredMethods()) {
                DUE.is(one + "." + method.getName() + " bears no name of the face", names.contains(method.getName()) ? 1 : 0, 0);
                DUE.is(one + "." + method.getName() + " has at most seven parameters", method.getParameterCount() <= 7 ? 1 : 0, 1);
            }
        }
        all.add(LampOfTheSilent.class);
        for (Class<?> one : all) {
            for (Field field : one.getDeclaredFields()) {
                boolean isFree = !Modifier.isStatic(field.getModifiers()) || Modifier.isFinal(field.getModifiers());
                DUE.is(one + "." + field.getName() + " is final, if static", isFree ? 1 : 0, 1);
            }
        }
    }

    private static void theSource() throws IOException {
        String source = Files.readString(Path.of("src/main/java/LampOfTheSilent.java"));
        for (char c : source.toCharArray()) {
            DUE.is("a sign of the source", c < 128 ? 1 : 0, 1);
        }
        String code = source.replaceAll("(?s)/\\*.*?\\*/", " ").replaceAll("//[^\n]*", " ");
        Matcher found = Pattern.compile(FORBIDDEN).matcher(code);
        while (found.find()) {
            DUE.is("the word " + found.group() + " in the source", 1, 0);
        }
    }
}
