import java.lang.reflect.Array;
import java.lang.reflect.Field;
import java.lang.reflect.Method;
import java.lang.reflect.Modifier;
import java.nio.charset.StandardCharsets;
import java.nio.file.Files;
import java.nio.file.Path;
import java.util.IdentityHashMap;
import java.util.Map;
import java.util.regex.Matcher;
import java.util.regex.Pattern;

/** What README.md says is so: its example's answers, its list of tests, and how much an object is made of. */
final class ReadmeTests {
    private static final Pattern TEXT = Pattern.compile("String party = \"(\\w+)\"");
    private static final Pattern CALL = Pattern.compile("(?m)^pass\\.(\\w+)\\((\\w*)\\);\\s+// (-?\\d+)");
    private static final Pattern MADE = Pattern.compile("\\((\\d+) objects and arrays, some (\\d+) numbers\\)");

    public static void main(String[] args) throws Exception {
        String readme = new String(Files.readAllBytes(Path.of("README.md")), StandardCharsets.UTF_8);
        example(readme);
        testsAreListed(readme);
        madeOnce(readme);
        Check.finish("ReadmeTests");
    }

    private static Matcher found(Pattern pattern, String readme) {
        Matcher matcher = pattern.matcher(readme);
        Check.isTrue("README.md has " + pattern, matcher.find());
        return matcher;
    }

    private static void example(String readme) throws Exception {
        PassInStep pass = new PassInStep();
        Check.write(pass, found(TEXT, readme).group(1));
        Matcher call = CALL.matcher(readme);
        int calls = 0;
        while (call.find()) {
            long answer = ((Number) answer(pass, call.group(1), call.group(2))).longValue();
            Check.due("README.md: " + call.group(), answer, Long.parseLong(call.group(3)));
            calls++;
        }
        Check.isTrue("README.md tells calls", calls >= 5);
    }

    private static Object answer(PassInStep pass, String name, String told) throws Exception {
        for (Method method : PassInStep.class.getMethods()) {
            if (method.getName().equals(name) && method.getParameterCount() == (told.isEmpty() ? 0 : 1)) {
                if (told.isEmpty()) {
                    return method.invoke(pass);
                }
                boolean isFlag = method.getParameterTypes()[0] == boolean.class;
                return isFlag ? method.invoke(pass, told.equals("true")) : method.invoke(pass, Integer.parseInt(told));
            }
        }
        return Long.MIN_VALUE;
    }

    private static void testsAreListed(String readme) throws Exception {
        try (java.util.stream.Stream<Path> files = Files.list(Path.of("tests"))) {
            for (Object file : files.toArray()) {
                String name = ((Path) file).getFileName().toString().replace(".java", "");
                Check.isTrue("README.md lists " + name, !name.endsWith("Tests") || readme.contains("`" + name + "`"));
            }
        }
    }

    /** All is made in the constructor: whatever is called, the same objects are there, and no others. */
    private static void madeOnce(String readme) throws Exception {
        Matcher told = found(MADE, readme);
        PassInStep pass = new PassInStep();
        Map<Object, Integer> before = new IdentityHashMap<>();
        gather(pass, before);
        int numbers = before.values().stream().mapToInt(Integer::intValue).sum();
        Check.due("objects and arrays", before.size(), Integer.parseInt(told.group(1)));
        Check.isTrue("numbers: " + numbers, Math.abs(numbers - Integer.parseInt(told.group(2))) < 50);
        callAll(pass);
        Map<Object, Integer> behind = new IdentityHashMap<>();
        gather(pass, behind);
        Check.isTrue("no call makes an object that stays", before.keySet().equals(behind.keySet()));
        String source = new String(Files.readAllBytes(Path.of("src/main/java/PassInStep.java")), StandardCharsets.UTF_8);
        for (String row : source.split("\n")) {
            boolean isMade = row.matches(".*\\bnew\\b.*[(\\[].*");
            boolean isField = row.matches("\\s+(private final int\\[\\] )?\\w+ = new .*|\\s+Yard trial = new .*");
            Check.isTrue("made for a field alone: " + row, !isMade || isField);
        }
    }

    /** Each object and array that hangs on one, with how many numbers it holds. */
    private static void gather(Object one, Map<Object, Integer> all) throws Exception {
        if (one == null || all.containsKey(one)) {
            return;
        }
        if (one.getClass().isArray()) {
            all.put(one, Array.getLength(one));
            return;
        }
        int numbers = 0;
        all.put(one, numbers);
        for (Field field : one.getClass().getDeclaredFields()) {
            if (Modifier.isStatic(field.getModifiers())) {
                continue;
            }
            if (field.getType().isPrimitive()) {
                numbers++;
            } else {
                field.setAccessible(true);
                gather(field.get(one), all);
            }
        }
        all.put(one, numbers);
    }

    private static void callAll(PassInStep x) {
        Check.write(x, "P635W410W421W532W313W413");
        x.party();
        for (int i = 0; i < 20; i++) {
            x.keep(i % 2);
            x.step();
            x.change(i % 4);
            x.drill(i % 5, i % 2 == 0);
            x.rescue(i % 5);
            x.lines(true);
            x.drills();
            x.judge(4, 300_100_211_000L);
            x.share(i % 5, true);
            x.mark(i, 4);
            x.whose(1);
            x.rests(0, 1, 0);
            x.stumbles(2, 3, false);
            x.winters(30);
            x.undo();
        }
        x.again(1);
    }
}
