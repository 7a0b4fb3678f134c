import java.io.IOException;
import java.lang.reflect.Executable;
import java.lang.reflect.Field;
import java.lang.reflect.Modifier;
import java.nio.charset.StandardCharsets;
import java.nio.file.Files;
import java.nio.file.Path;
import java.util.ArrayList;
import java.util.Arrays;
import java.util.HashMap;
import java.util.HashSet;
import java.util.List;
import java.util.Map;
import java.util.Set;
import java.util.regex.Matcher;
import java.util.regex.Pattern;

/** The rules of ../shared/LANGUAGE.md that can be read off the source and the compiled class. */
public final class LanguageTest {
    private static final Pattern METHOD = Pattern.compile(
            "(?:public|private) (?:static )?(?:[\\w<>\\[\\]]+ )?(\\w+)\\([\\w\\s,<>\\[\\]]*\\)[\\w\\s,]*\\{");
    private static final Pattern CALL = Pattern.compile("(?<!new )\\b([a-z]\\w*)\\(");
    private static final Set<String> WORDS_BEFORE_BRACKETS = Set.of("if", "for", "while", "switch", "return", "catch");
    private static final Set<String> LIBRARY = Set.of("add", "get", "size", "fill", "min", "max", "bitCount");
    private static final Set<String> EXCEPTIONS = Set.of("IllegalStateException", "IllegalArgumentException",
            "IndexOutOfBoundsException", "ArithmeticException", "UnsupportedOperationException",
            "NoSuchElementException", "RuntimeException");

    private static String source;
    private static final Map<String, String> bodies = new HashMap<>();

    public static void main(String[] args) throws IOException {
        String text = Files.readString(Path.of("src/main/java/Courtyard.java"), StandardCharsets.UTF_8);
        Check.same("signs up to 127", text.chars().allMatch(sign -> sign < 128), true);
        source = text.replaceAll("(?s)/\\*.*?\\*/", "").replaceAll("//[^\n]*", "");
        findMethods();
        words();
        exceptions();
        classes();
        lengths();
        library();
        depths();
        Check.end();
    }

    private static void findMethods() {
        Matcher matcher = METHOD.matcher(source);
        int methods = 0;
        while (matcher.find()) {
            int open = 1;
            int at = matcher.end();
            while (open > 0 && at < source.length()) {
                open += source.charAt(at) == '{' ? 1 : source.charAt(at) == '}' ? -1 : 0;
                at++;
            }
            methods++;
            bodies.merge(matcher.group(1), source.substring(matcher.end(), at), String::concat);
        }
        int due = 0;
        for (Class<?> type : types()) {
            due += type.getDeclaredMethods().length;
            // A class without a constructor of its own has one in the compiled class alone.
            due += bodies.containsKey(type.getSimpleName()) ? 1 : 0;
        }
        Check.same("methods found in the source", methods, due);
    }

    private static void words() {
        Set<String> imports = Set.of("java.util.ArrayList", "java.util.List", "java.util.Arrays",
                "java.util.NoSuchElementException", "java.util.Iterator");
        Matcher matcher = Pattern.compile("import ([^;]*);").matcher(source);
        while (matcher.find()) {
            Check.same("4: import " + matcher.group(1), imports.contains(matcher.group(1)), true);
        }
        for (String word : new String[] {"package", "protected", "finally", "synchronized", "assert", "instanceof",
            "catch", "try", "Object", "Thread", "System", "Random", "toString", "hashCode", "equals", "getMessage",
            "null", "var", "volatile", "native", "transient", "strictfp"}) {
            boolean stands = Pattern.compile("\\b" + word + "\\b").matcher(source).find();
            Check.same("2 to 13: " + word, stands, false);
        }
        for (String sign : new String[] {"->", "::", "@", "\" +", "+ \"", "static {", "...", "Exact("}) {
            Check.same("2 to 10: " + sign, source.contains(sign), false);
        }
    }

    private static void exceptions() {
        Matcher matcher = Pattern.compile("\\bthrow\\b(?! new (\\w+)\\((?:\"[^\"]*\")?\\);)").matcher(source);
        Check.same("6: throw of something else than a new one with a written text", matcher.find(), false);
        Matcher thrown = Pattern.compile("throw new (\\w+)").matcher(source);
        while (thrown.find()) {
            Check.same("6: " + thrown.group(1), EXCEPTIONS.contains(thrown.group(1)), true);
        }
        for (Class<?> type : types()) {
            String constructor = bodies.getOrDefault(type.getSimpleName(), "");
            Check.same("6: throw in new " + type.getSimpleName(), constructor.contains("throw"), false);
        }
    }

    private static List<Class<?>> types() {
        List<Class<?>> types = new ArrayList<>(Arrays.asList(Courtyard.class.getDeclaredClasses()));
        types.add(Courtyard.class);
        return types;
    }

    private static void classes() {
        Check.same("11: classes", types().size() <= 12, true);
        for (Class<?> type : types()) {
            int fields = 0;
            for (Field field : type.getDeclaredFields()) {
                boolean isStatic = Modifier.isStatic(field.getModifiers());
                fields += isStatic ? 0 : 1;
                boolean isConstant = Modifier.isFinal(field.getModifiers()) && field.getType() == int.class;
                Check.same("5: " + field.getName(), !isStatic || isConstant, true);
                Check.same("1: " + field.getName(), Modifier.isPrivate(field.getModifiers()), true);
            }
            Check.same("11: fields of " + type.getSimpleName(), fields <= 20, true);
            List<Executable> calls = new ArrayList<>(Arrays.asList(type.getDeclaredMethods()));
            calls.addAll(Arrays.asList(type.getDeclaredConstructors()));
            for (Executable call : calls) {
                Check.same("11: parameters of " + call.getName(), call.getParameterCount() <= 7, true);
            }
        }
    }

    private static void lengths() {
        for (Map.Entry<String, String> body : bodies.entrySet()) {
            Check.same("11: lines of " + body.getKey(), body.getValue().split("\n").length <= 60, true);
        }
    }

    private static void library() {
        for (Map.Entry<String, String> body : bodies.entrySet()) {
            for (String call : callsOf(body.getValue())) {
                boolean isKnown = bodies.containsKey(call) || LIBRARY.contains(call);
                Check.same("4: " + body.getKey() + " calls " + call, isKnown, true);
            }
        }
    }

    private static Set<String> callsOf(String body) {
        Set<String> calls = new HashSet<>();
        Matcher matcher = CALL.matcher(body);
        while (matcher.find()) {
            if (!WORDS_BEFORE_BRACKETS.contains(matcher.group(1))) {
                calls.add(matcher.group(1));
            }
        }
        return calls;
    }

    /** Methods of one name in several classes count as one, so the true depth may be less, but not more. */
    private static void depths() {
        for (String method : bodies.keySet()) {
            int depth = depth(method, 0);
            Check.same("8: " + method + " goes " + depth + " deep", depth <= 8, true);
        }
    }

    private static int depth(String method, int above) {
        int deepest = 0;
        for (String call : callsOf(bodies.getOrDefault(method, ""))) {
            deepest = above > 20 ? 20 : Math.max(deepest, depth(call, above + 1));
        }
        return deepest + 1;
    }
}
