import java.io.IOException;
import java.lang.reflect.Constructor;
import java.lang.reflect.Field;
import java.lang.reflect.Method;
import java.lang.reflect.Modifier;
import java.nio.file.Files;
import java.nio.file.Path;
import java.util.Arrays;
import java.util.Random;
import java.util.Set;
import java.util.TreeSet;
import java.util.regex.Matcher;
import java.util.regex.Pattern;

/** The public face, the part of Java that LANGUAGE.md leaves, and that no call ever throws. */
public final class FaceTest {
    private static final Check CHECK = new Check();
    private static final String[] FACE = {
        "type 1", "clear 0", "posts 0", "ticks 1", "cancels 1", "switches 1", "tunes 3", "undo 0", "at 1",
        "channel 2", "slot 3", "unit 4", "waiting 1", "both 4", "over 1", "lands 1", "enough 2", "granted 1",
        "sees 2", "forget 0", "ranks 1", "keep 1", "back 1", "count 1"};
    private static final int[] ODD = {0, 1, 2, 3, 4, 5, 6, 7, 8, 9, 12, 15, 23, 24, 39, 40, 41, 63, 64, 65, 119, 120,
        121, 199, 200, 201, 255, 256, -1, -2, -3, -8, -9, -10, -20, -64, Integer.MIN_VALUE, Integer.MIN_VALUE + 1,
        Integer.MAX_VALUE, Integer.MAX_VALUE - 1, 1 << 16, 1 << 30};

    private static final String[] TEXTS = {"l0 0 8 16 1 1 4 0 0 1;", "l1 9 9 3-9-9 4-20-20 0;", "l2 0 0 1 0 0 1 0 0 1;",
        "f3 4;", "c3 2 1;", "x"};

    public static void main(String[] args) throws Exception {
        face();
        source();
        anyArguments();
        laterCalls();
        CHECK.end("FaceTest");
    }

    private static void face() {
        CHECK.about("the public face");
        Class<TransferRings> type = TransferRings.class;
        CHECK.due("final", Modifier.isFinal(type.getModifiers()) ? 1 : 0, 1);
        CHECK.due("BAD", TransferRings.BAD, -1);
        CHECK.due("STATE", TransferRings.STATE, -2);
        CHECK.due("FULL", TransferRings.FULL, -3);
        CHECK.due("NONE", TransferRings.NONE, -9);
        Set<String> methods = new TreeSet<>();
        Set<String> names = new TreeSet<>();
        for (String one : FACE) {
            names.add(one.substring(0, one.indexOf(' ')));
        }
        for (Method m : type.getDeclaredMethods()) {
            if (Modifier.isPrivate(m.getModifiers())) {
                CHECK.due("a private method named " + m.getName(), names.contains(m.getName()) ? 1 : 0, 0);
            } else {
                methods.add(m.getName() + " " + m.getParameterCount());
                CHECK.due(m + " is a public one", Modifier.isPublic(m.getModifiers()) ? 1 : 0, 1);
                CHECK.due(m + " answers an int", m.getReturnType() == int.class ? 1 : 0, 1);
            }
        }
        CHECK.due("the methods are those of the face", methods.equals(new TreeSet<>(Arrays.asList(FACE))) ? 1 : 0, 1);
        int constants = 0;
        for (Field f : type.getDeclaredFields()) {
            constants += Modifier.isPrivate(f.getModifiers()) ? 0 : 1;
        }
        CHECK.due("fields that are not private", constants, 4);
        Constructor<?>[] made = type.getDeclaredConstructors();
        CHECK.due("constructors", made.length, 1);
        CHECK.due("the constructor's parameters", made[0].getParameterCount(), 0);
    }

    private static void source() throws IOException {
        CHECK.about("LANGUAGE.md");
        String source = Files.readString(Path.of("src/main/java/TransferRings.java"));
        String code = source.replaceAll("(?s)/\\*.*?\\*/", " ").replaceAll("//[^\n]*", " ");
        String[] words = {"throw", "try", "catch", "synchronized", "assert", "import", "package", "protected", "yield",
            "hashCode", "toString", "double", "float", "Exact", "volatile", "native"};
        for (String word : words) {
            Matcher m = Pattern.compile("\\b" + word).matcher(code);
            CHECK.due("the word " + word, m.find() ? 1 : 0, 0);
        }
        CHECK.due("lambdas, method references", code.contains("->") || code.contains("::") ? 1 : 0, 0);
        Matcher stat = Pattern.compile("static (?!final|boolean|int [a-z]\\w*\\()[^;{]*").matcher(code);
        CHECK.due("static state", stat.find() ? 1 : 0, 0);
        for (int i = 0; i < source.length(); i++) {
            if (source.charAt(i) > 126) {
                CHECK.due("the sign at " + i, source.charAt(i), 126);
            }
        }
    }

    /** Every call with every kind of number, in states that come about so: none may throw. */
    private static void anyArguments() throws Exception {
        CHECK.about("no call throws");
        Random random = new Random(7);
        for (int run = 0; run < 600; run++) {
            Rings x = new Rings();
            while (x.callsLeft() > 30) {
                if (random.nextInt(12) == 0) {
                    Check.posted(x, TEXTS[random.nextInt(TEXTS.length)]);
                }
                anyCall(x, random);
            }
            x.clear();
            CHECK.due("it answers still", x.count(4), 0);
        }
    }

    /** What calls behind the 512th answer is free, but rule 7 of LANGUAGE.md lets them throw no more than the others. */
    private static void laterCalls() throws Exception {
        CHECK.about("no later call throws");
        Random random = new Random(8);
        TransferRings x = new TransferRings();
        for (int i = 0; i < 20000; i++) {
            if (i % 30 == 0) {
                x.clear();
                String text = TEXTS[random.nextInt(TEXTS.length)];
                for (int j = 0; j < text.length(); j++) {
                    x.type(text.charAt(j));
                }
                x.posts();
            }
            anyCall(x, random);
        }
    }

    private static void anyCall(Object x, Random random) throws Exception {
        String[] one = FACE[random.nextInt(FACE.length)].split(" ");
        int many = Integer.parseInt(one[1]);
        Class<?>[] types = new Class<?>[many];
        Object[] arguments = new Object[many];
        for (int i = 0; i < many; i++) {
            types[i] = int.class;
            arguments[i] = random.nextInt(3) == 0 ? ODD[random.nextInt(ODD.length)] : random.nextInt(5);
        }
        Object answer = x.getClass().getDeclaredMethod(one[0], types).invoke(x, arguments);
        CHECK.due("it answers an int", answer instanceof Integer ? 1 : 0, 1);
    }
}
