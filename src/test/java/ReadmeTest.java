import java.io.IOException;
import java.lang.reflect.Method;
import java.nio.file.Files;
import java.nio.file.Path;
import java.util.ArrayList;
import java.util.List;
import java.util.regex.Matcher;
import java.util.regex.Pattern;
import java.util.stream.Stream;

/** What README.md says of the class is what the class does. */
public final class ReadmeTest {
    private static final Due DUE = new Due();
    private static final long LONG_REFUSAL = 4000000000000000000L;
    private static final int BELOW = -4;
    private static final int ROOM = -6;

    public static void main(String[] args) throws IOException, ReflectiveOperationException {
        String page = Files.readString(Path.of("README.md"));
        theExample(page);
        theLetters(page);
        theKinds(page);
        theCalls(page);
        theNumbers(page);
        theTests(page);
        DUE.end();
    }

    /** Each call in the example answers the number with which its comment begins. */
    private static void theExample(String page) throws ReflectiveOperationException {
        Matcher block = Pattern.compile("(?s)```java\n(.*?)```").matcher(page);
        DUE.is("an example", block.find() ? 1 : 0, 1);
        Matcher text = Pattern.compile("\"(.*)\"").matcher(block.group(1));
        DUE.is("a mine in the example", text.find() ? 1 : 0, 1);
        LampOfTheSilent x = Due.tell(new LampOfTheSilent(), text.group(1));
        int calls = 0;
        Matcher line = Pattern.compile("x\\.(\\w+)\\(([-\\d, ]*)\\); +// (-?\\d+)").matcher(block.group(1));
        while (line.find()) {
            calls++;
            DUE.is("the example's " + line.group(), call(x, line.group(1), numbersOf(line.group(2))), Long.parseLong(line.group(3)));
        }
        DUE.is("calls in the example", calls, block.group(1).split("x\\.").length - 2);
    }

    private static void theLetters(String page) {
        int statements = 0;
        Matcher row = Pattern.compile("\n\\| `([^`]*;)` \\|").matcher(page);
        while (row.find()) {
            statements++;
            DUE.is(row.group(1), Due.tell(Due.mineOf("pm0m0;pm0m0;"), row.group(1)).mine(), 1);
        }
        DUE.is("statements", statements, 6);
    }

    private static void theKinds(String page) {
        int kinds = 0;
        Matcher row = Pattern.compile("\n\\| (\\d) \\| `(\\w)` \\w+ \\|[^|]*\\| (\\d) cells? \\|").matcher(page);
        while (row.find()) {
            LampOfTheSilent x = Due.mineOf("p" + row.group(2) + "0m0;");
            DUE.is("the KIND " + row.group(2), x.miner(0, 0), Long.parseLong(row.group(1)));
            DUE.is("the CELLS of " + row.group(2), x.miner(0, 3), Long.parseLong(row.group(3)));
            kinds++;
        }
        DUE.is("KINDS", kinds, 6);
    }

    /** The page tells the calls of the document's face, in its order and with its arguments. */
    private static void theCalls(String page) throws IOException {
        List<String> told = new ArrayList<>();
        for (String[] row : callsOf(page)) {
            told.add(row[0] + "(" + row[1] + ")");
        }
        Path document = Path.of("../shared/DOC.md");
        if (!Files.exists(document)) {
            return;
        }
        List<String> face = new ArrayList<>();
        Matcher call = Pattern.compile("public (?:int|long) (\\w+\\(.*?\\));").matcher(Files.readString(document));
        while (call.find()) {
            face.add(call.group(1).replace("int ", ""));
        }
        DUE.is("calls on the page", told.size(), face.size());
        for (int i = 0; i < told.size() && i < face.size(); i++) {
            DUE.is("call " + i + ", " + told.get(i) + ", is " + face.get(i), told.get(i).equals(face.get(i)) ? 1 : 0, 1);
        }
    }

    /** Where the page tells "v 0 .. 3", 0 and 3 are no refusal, -1 and 4 are. */
    private static void theNumbers(String page) throws ReflectiveOperationException {
        int ranges = 0;
        for (String[] row : callsOf(page)) {
            Matcher range = Pattern.compile("(\\w+) (\\d+) \\.\\. (\\d+)").matcher(row[2]);
            while (range.find()) {
                ranges++;
                int least = Integer.parseInt(range.group(2));
                int most = Integer.parseInt(range.group(3));
                DUE.is(row[0] + " of " + (least - 1), refusalOf(row, range.group(1), least - 1), BELOW);
                DUE.is(row[0] + " of " + least, refusalOf(row, range.group(1), least), 0);
                DUE.is(row[0] + " of " + most, refusalOf(row, range.group(1), most), 0);
                DUE.is(row[0] + " of " + (most + 1), refusalOf(row, range.group(1), most + 1), ROOM);
            }
        }
        DUE.is("ranges on the page", ranges, 16);
    }

    /** How a new mine refuses a call with this number and all others at their least; 0 if it does not. */
    private static int refusalOf(String[] row, String name, int number) throws ReflectiveOperationException {
        String[] names = row[1].split(", ");
        int[] arguments = new int[names.length];
        for (int i = 0; i < names.length; i++) {
            Matcher least = Pattern.compile("\\b" + names[i] + " (\\d+) \\.\\.").matcher(row[2]);
            arguments[i] = least.find() ? Integer.parseInt(least.group(1)) : 0;
            arguments[i] = names[i].equals(name) ? number : arguments[i];
        }
        LampOfTheSilent x = Due.mineOf("pm0m0;pm0m0;");
        long answer = call(x, row[0], arguments);
        for (int refusal = -6; refusal <= -1; refusal++) {
            if (x.count(10 - refusal) > 0) {
                long due = row[0].equals("cough") || row[0].equals("mean") ? LONG_REFUSAL - refusal : refusal;
                DUE.is(row[0] + " refuses", answer, due);
                return refusal;
            }
        }
        return 0;
    }

    private static void theTests(String page) throws IOException {
        List<String> told = new ArrayList<>();
        Matcher row = Pattern.compile("\n\\| `(\\w+Test)` \\|").matcher(page);
        while (row.find()) {
            told.add(row.group(1) + ".java");
        }
        int found = 0;
        try (Stream<Path> files = Files.list(Path.of("src/test/java"))) {
            for (Path file : files.toList()) {
                String name = file.getFileName().toString();
                if (name.endsWith("Test.java")) {
                    found++;
                    DUE.is("the page tells " + name, told.contains(name) ? 1 : 0, 1);
                }
            }
        }
        DUE.is("tests on the page", told.size(), found);
    }

    /** Of each call on the page its name, its arguments and its numbers. */
    private static List<String[]> callsOf(String page) {
        List<String[]> calls = new ArrayList<>();
        Matcher row = Pattern.compile("\n\\| `(\\w+)\\(([^)]*)\\)` \\|[^|\n]*\\|([^|\n]*)\\|").matcher(page);
        int from = page.indexOf("### The calls");
        while (from >= 0 && row.find(from)) {
            calls.add(new String[] {row.group(1), row.group(2), row.group(3)});
            // The line's end belongs to the next row.
            from = row.end();
        }
        return calls;
    }

    private static int[] numbersOf(String text) {
        return text.isBlank() ? new int[0] : Stream.of(text.split(", ")).mapToInt(Integer::parseInt).toArray();
    }

    private static long call(LampOfTheSilent x, String name, int[] arguments) throws ReflectiveOperationException {
        for (Method method : LampOfTheSilent.class.getMethods()) {
            if (method.getName().equals(name) && method.getParameterCount() == arguments.length) {
                return ((Number) method.invoke(x, (Object[]) boxed(arguments))).longValue();
            }
        }
        throw new NoSuchMethodException(name);
    }

    private static Integer[] boxed(int[] numbers) {
        Integer[] all = new Integer[numbers.length];
        for (int i = 0; i < numbers.length; i++) {
            all[i] = numbers[i];
        }
        return all;
    }
}
