import java.io.IOException;
import java.lang.reflect.Method;
import java.lang.reflect.Modifier;
import java.nio.file.DirectoryStream;
import java.nio.file.Files;
import java.nio.file.Path;
import java.util.regex.Matcher;
import java.util.regex.Pattern;

/** README.md: its example answers as it says, and it names every call and every test. */
public final class ReadmeTest {
    private static final Check CHECK = new Check();
    private static final Pattern TYPED = Pattern.compile("for \\(char \\w+ : \"([^\"]*)\"\\.toCharArray\\(\\)\\)");
    private static final Pattern ANSWERED = Pattern.compile("int \\w+ = x\\.(\\w+)\\(([^)]*)\\);\\s+// (-?\\d+)");

    public static void main(String[] args) throws Exception {
        String page = Files.readString(Path.of("README.md"));
        example(page);
        calls(page);
        tests(page);
        CHECK.end("ReadmeTest");
    }

    private static void example(String page) throws Exception {
        CHECK.about("README.md, the example");
        Rings x = new Rings();
        Matcher typed = TYPED.matcher(page);
        boolean found = typed.find();
        CHECK.holds("it types a text", found);
        Check.typed(x, found ? typed.group(1) : "");
        Matcher answered = ANSWERED.matcher(page);
        int many = 0;
        while (answered.find()) {
            many++;
            String call = answered.group(1) + "(" + answered.group(2) + ")";
            CHECK.due(call, answer(x, answered.group(1), answered.group(2)), Integer.parseInt(answered.group(3)));
        }
        CHECK.due("calls with their answers", many, 5);
    }

    private static int answer(Rings x, String name, String told) throws Exception {
        String[] numbers = told.isEmpty() ? new String[0] : told.split(", *");
        Class<?>[] types = new Class<?>[numbers.length];
        Object[] arguments = new Object[numbers.length];
        for (int i = 0; i < numbers.length; i++) {
            types[i] = int.class;
            arguments[i] = Integer.valueOf(numbers[i]);
        }
        return (Integer) Rings.class.getDeclaredMethod(name, types).invoke(x, arguments);
    }

    private static void calls(String page) {
        CHECK.about("README.md, the calls");
        for (Method m : TransferRings.class.getDeclaredMethods()) {
            if (Modifier.isPublic(m.getModifiers())) {
                Matcher row = Pattern.compile("\n\\| `" + m.getName() + "\\(([^)]*)\\)` \\|").matcher(page);
                boolean named = row.find();
                CHECK.holds("it names " + m.getName(), named);
                String told = named ? row.group(1) : "";
                CHECK.due("numbers of " + m.getName(), told.isEmpty() ? 0 : told.split(",").length, m.getParameterCount());
            }
        }
    }

    private static void tests(String page) throws IOException {
        CHECK.about("README.md, the tests");
        try (DirectoryStream<Path> files = Files.newDirectoryStream(Path.of("src/test/java"), "*Test.java")) {
            for (Path file : files) {
                String name = file.getFileName().toString().replace(".java", "");
                CHECK.holds("it names " + name, page.contains("\n| `" + name + "` |"));
            }
        }
    }
}
