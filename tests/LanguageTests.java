import java.lang.reflect.Field;
import java.lang.reflect.Method;
import java.lang.reflect.Modifier;
import java.nio.charset.StandardCharsets;
import java.nio.file.Files;
import java.nio.file.Path;
import java.util.Map;
import java.util.Set;
import java.util.TreeMap;
import java.util.TreeSet;
import java.util.regex.Matcher;
import java.util.regex.Pattern;

/** The face of the class, and those rules of LANGUAGE.md that can be seen without reading. */
final class LanguageTests {
    private static final String[] FACE = {
        "int about(int)", "int again(int)", "int ahead(int)", "int change(int)", "int drill(int,boolean)",
        "int drills()", "int drops(int)", "int fallsIn(int,int)", "int fault()", "int judge(int,long)",
        "int keep(int)", "int likes()", "int line(int)", "int lines(boolean)", "int mark(int,int)", "int party()",
        "int rescue(int)", "int rests(int,int,int)", "int share(int,boolean)", "int snowed()", "int step()",
        "int stumbles(int,int,boolean)", "int undo()", "int walker(int,int)", "int whose(int)", "int winters(int)",
        "int wipe()", "int write(int)", "long seed(long)"};
    private static final String[] FORBIDDEN = {"throw", "throws", "try", "catch", "finally", "synchronized", "assert",
        "import", "package", "double", "float", "Object", "var", "volatile", "native", "transient", "System"};
    private static final String[] FORBIDDEN_SIGNS = {"->", "::", "Exact(", "new Thread", "static {", "@"};

    public static void main(String[] args) throws Exception {
        face();
        methods();
        fields();
        classes();
        text(new String(Files.readAllBytes(Path.of(args[0])), StandardCharsets.UTF_8));
        Check.finish("LanguageTests");
    }

    private static void face() {
        Set<String> seen = new TreeSet<>();
        for (Method method : PassInStep.class.getDeclaredMethods()) {
            if (!Modifier.isPrivate(method.getModifiers())) {
                StringBuilder told = new StringBuilder(method.getReturnType() + " " + method.getName() + "(");
                for (Class<?> type : method.getParameterTypes()) {
                    told.append(told.toString().endsWith("(") ? "" : ",").append(type);
                }
                seen.add(told.append(")").toString());
                Check.isTrue("rule 1: " + told + " is public", Modifier.isPublic(method.getModifiers()));
            }
        }
        Check.isTrue("rule 1: the face is " + seen, seen.equals(new TreeSet<>(java.util.List.of(FACE))));
        Check.due("rule 1: constructors", PassInStep.class.getDeclaredConstructors().length, 1);
        Check.isTrue("rule 1: final", Modifier.isFinal(PassInStep.class.getModifiers()));
    }

    private static Set<String> publicNames() {
        Set<String> names = new TreeSet<>();
        for (String told : FACE) {
            names.add(told.substring(told.indexOf(' ') + 1, told.indexOf('(')));
        }
        return names;
    }

    private static Class<?>[] all() {
        Class<?>[] inside = PassInStep.class.getDeclaredClasses();
        Class<?>[] all = java.util.Arrays.copyOf(inside, inside.length + 1);
        all[inside.length] = PassInStep.class;
        return all;
    }

    private static void methods() {
        Set<String> names = publicNames();
        for (Class<?> type : all()) {
            for (Method method : type.getDeclaredMethods()) {
                String told = type.getSimpleName() + "." + method.getName();
                Check.isTrue("rule 11: parameters of " + told, method.getParameterCount() <= 7);
                Check.isTrue("rule 2: made by the compiler: " + told, !method.isSynthetic());
                boolean face = type == PassInStep.class && Modifier.isPublic(method.getModifiers());
                Check.isTrue("rule 1: a public one's name: " + told, face || !names.contains(method.getName()));
            }
        }
    }

    private static void fields() {
        Set<String> constants = Set.of("UNKNOWN", "BAD", "LATE", "FULL", "NONE");
        for (Class<?> type : all()) {
            int own = 0;
            for (Field field : type.getDeclaredFields()) {
                boolean isStatic = Modifier.isStatic(field.getModifiers());
                own += isStatic ? 0 : 1;
                Check.isTrue("rule 5: " + field, !isStatic || Modifier.isFinal(field.getModifiers()));
                boolean face = type == PassInStep.class && constants.contains(field.getName());
                Check.isTrue("rule 1: " + field, face == Modifier.isPublic(field.getModifiers()));
                Check.isTrue("rule 1: " + field + " of the class itself",
                    type != PassInStep.class || face || Modifier.isPrivate(field.getModifiers()));
            }
            Check.isTrue("rule 11: fields of " + type, own <= 20);
        }
    }

    private static void classes() {
        Check.isTrue("rule 11: classes", all().length <= 12);
        for (Class<?> type : PassInStep.class.getDeclaredClasses()) {
            Check.isTrue("rule 2: " + type + " is static", Modifier.isStatic(type.getModifiers()));
            Check.isTrue("rule 1: " + type + " is not public", !Modifier.isPublic(type.getModifiers()));
            Check.due("rule 2: classes inside " + type, type.getDeclaredClasses().length, 0);
        }
    }

    private static void text(String source) {
        String code = source.replaceAll("(?s)/\\*.*?\\*/", " ").replaceAll("//[^\n]*", " ")
            .replaceAll("'(\\\\.|[^'\\\\])'", "' '").replaceAll("\"(\\\\.|[^\"\\\\])*\"", "\"\"");
        for (String word : FORBIDDEN) {
            Check.isTrue("rules 3, 4, 6: " + word, !Pattern.compile("\\b" + word + "\\b").matcher(code).find());
        }
        for (String sign : FORBIDDEN_SIGNS) {
            Check.isTrue("rules 2, 4, 5: " + sign, !code.contains(sign));
        }
        Check.isTrue("rule 9: while", !Pattern.compile("\\bwhile\\b").matcher(code).find());
        Check.isTrue("rule 4: signs 1 to 127", source.chars().allMatch(sign -> sign >= 1 && sign <= 127));
        Matcher index = Pattern.compile("\\w\\[[^\\]]").matcher(code);
        int indexes = 0;
        while (index.find()) {
            indexes++;
        }
        int made = 0;
        Matcher making = Pattern.compile("new int\\[").matcher(code);
        while (making.find()) {
            made++;
        }
        Check.due("rule 7: an index is used in at and put alone", indexes - made, 2);
        methodLengths(code);
        callDepths(code);
    }

    /** Which names are called in each method; those of one name are taken as one. */
    private static Map<String, Set<String>> calls(String code) {
        Map<String, Set<String>> calls = new TreeMap<>();
        Matcher head = Pattern.compile("(?m)^(?: {4}| {8})(?:\\w+(?:\\[\\])* )*(\\w+)\\([^()]*\\) \\{$").matcher(code);
        while (head.find()) {
            String indent = code.charAt(head.start() + 4) == ' ' ? "        " : "    ";
            String body = code.substring(head.end(), code.indexOf("\n" + indent + "}", head.end()));
            Set<String> called = calls.computeIfAbsent(head.group(1), name -> new TreeSet<>());
            Matcher call = Pattern.compile("(?<!Math\\.)(?<!Integer\\.)\\b(\\w+)\\(").matcher(body);
            while (call.find()) {
                called.add(call.group(1));
            }
        }
        return calls;
    }

    private static int depth(Map<String, Set<String>> calls, String name, int above) {
        int deepest = 0;
        if (above < 20 && calls.containsKey(name)) {
            for (String called : calls.get(name)) {
                deepest = Math.max(deepest, depth(calls, called, above + 1));
            }
            return deepest + 1;
        }
        return 0;
    }

    private static void callDepths(String code) {
        Map<String, Set<String>> calls = calls(code);
        for (String name : publicNames()) {
            Check.isTrue("rule 11: " + name + " is found", calls.containsKey(name));
            int depth = depth(calls, name, 0);
            Check.isTrue("rules 8, 11: calls of " + name + " go " + depth + " deep", depth <= 8);
        }
    }

    private static void methodLengths(String code) {
        int begun = 0;
        int number = 0;
        for (String row : code.split("\n")) {
            number++;
            if (row.matches("( {4}| {8})\\S.*\\) \\{")) {
                begun = number;
            }
            if (row.matches("( {4}| {8})}")) {
                Check.isTrue("rule 11: the method that ends at " + number, number - begun <= 60);
                begun = number;
            }
        }
    }
}
