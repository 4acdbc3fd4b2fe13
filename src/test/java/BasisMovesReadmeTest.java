import java.io.IOException;
import java.lang.reflect.Method;
import java.lang.reflect.Modifier;
import java.nio.file.Files;
import java.nio.file.Path;
import java.util.Set;
import java.util.TreeSet;
import java.util.regex.Matcher;
import java.util.regex.Pattern;
import java.util.stream.Stream;

/** What README.md says of the class and of its tests holds: its example, its tables, its list of tests. */
public final class BasisMovesReadmeTest {
    private static final Pattern CALL = lines("^x\\.(\\w+)\\(([-0-9, ]*)\\);\\s*// (-?[0-9]+)");
    private static final Pattern DEGREE = lines("^\\| ([0-6]) +\\| ([0-9]+) +\\| ([^|]*?) *\\|$");
    private static final Pattern CONSTANT = lines("^\\| `([A-Z]+)` (-?[0-9]+)");
    private static int wrong = 0;

    private BasisMovesReadmeTest() {
    }

    public static void main(String[] args) throws Exception {
        Path source = Path.of(System.getProperty("basismoves.source", "src/main/java/BasisMoves.java"));
        Path root = source.toAbsolutePath().getParent().getParent().getParent().getParent();
        String text = Files.readString(root.resolve("README.md"));
        example(text);
        partitions(text);
        constants(text);
        callsNamed(text);
        testsNamed(text, root.resolve("src/test/java"));
        System.out.println(wrong == 0 ? "README.md holds" : wrong + " faults in README.md");
        if (wrong != 0) {
            System.exit(1);
        }
    }

    private static Pattern lines(String form) {
        return Pattern.compile(form, Pattern.MULTILINE);
    }

    private static void check(boolean good, String what) {
        if (!good) {
            wrong++;
            System.out.println("README.md: " + what);
        }
    }

    private static Method method(String name) {
        for (Method method : BasisMoves.class.getMethods()) {
            if (method.getName().equals(name) && method.getDeclaringClass() == BasisMoves.class) {
                return method;
            }
        }
        throw new IllegalStateException("no call " + name);
    }

    private static void example(String text) throws ReflectiveOperationException {
        BasisMoves x = new BasisMoves();
        Matcher call = CALL.matcher(text);
        int made = 0;
        while (call.find()) {
            String[] words = call.group(2).split(", *");
            Object[] values = new Object[words.length];
            for (int i = 0; i < words.length; i++) {
                values[i] = Integer.valueOf(words[i]);
            }
            long got = ((Number) method(call.group(1)).invoke(x, values)).longValue();
            check(got == Long.parseLong(call.group(3)), call.group() + ", answered " + got);
            made++;
        }
        check(made == text.lines().filter(line -> line.startsWith("x.")).count() && made > 0,
                made + " calls of the example have an answer");
    }

    private static void partitions(String text) {
        Matcher row = DEGREE.matcher(text);
        BasisMoves x = new BasisMoves();
        int rows = 0;
        while (row.find()) {
            int degree = Integer.parseInt(row.group(1));
            int first = Integer.parseInt(row.group(2));
            String[] all = row.group(3).split(", ");
            check(x.count(20 + degree) == first && x.count(10 + degree) == all.length, "the row of degree " + degree);
            for (int i = 0; i < all.length; i++) {
                String parts = all[i].equals("(none)") ? "" : all[i];
                for (int k = 0; k < 6; k++) {
                    int part = k < parts.length() ? parts.charAt(k) - '0' : 0;
                    check(x.part(first + i, k) == part, "partition " + all[i] + " is not " + (first + i));
                }
            }
            rows++;
        }
        check(rows == 7, rows + " rows of partitions");
    }

    private static void constants(String text) throws ReflectiveOperationException {
        Matcher row = CONSTANT.matcher(text);
        int rows = 0;
        while (row.find()) {
            int value = BasisMoves.class.getField(row.group(1)).getInt(null);
            check(value == Integer.parseInt(row.group(2)), row.group());
            rows++;
        }
        check(rows == 4, rows + " rows of constants");
    }

    /** Each call of the class stands in the table of calls, with as many arguments as it has. */
    private static void callsNamed(String text) {
        for (Method method : BasisMoves.class.getDeclaredMethods()) {
            if (Modifier.isPublic(method.getModifiers())) {
                StringBuilder arguments = new StringBuilder("\\w+");
                for (int i = 1; i < method.getParameterCount(); i++) {
                    arguments.append(", \\w+");
                }
                Pattern named = lines("^\\| .*`" + method.getName() + "\\(" + arguments + "\\)`");
                check(named.matcher(text).find(), "no row of " + method.getName());
            }
        }
    }

    private static void testsNamed(String text, Path tests) throws IOException {
        Set<String> there = new TreeSet<>();
        try (Stream<Path> files = Files.list(tests)) {
            files.map(file -> file.getFileName().toString().replace(".java", "")).forEach(there::add);
        }
        for (String name : there) {
            check(text.contains("`" + name + "`"), "it does not name " + name);
        }
        Matcher named = Pattern.compile("`(BasisMoves\\w+Test)`").matcher(text);
        while (named.find()) {
            check(there.contains(named.group(1)), "there is no " + named.group(1));
        }
    }
}
