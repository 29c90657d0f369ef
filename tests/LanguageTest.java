import java.io.IOException;
import java.lang.reflect.Field;
import java.lang.reflect.Modifier;
import java.nio.charset.StandardCharsets;
import java.nio.file.Files;
import java.nio.file.Path;
import java.util.ArrayList;
import java.util.List;
import java.util.Set;
import java.util.TreeSet;
import java.util.regex.Matcher;
import java.util.regex.Pattern;

/** Reads the class's text and looks for what the rules of LANGUAGE.md rule out, as far as reading can tell. */
public final class LanguageTest extends Checks {
    private static final Path SOURCE = Path.of("src/main/java/Seattable.java");
    private static final String EXCEPTIONS = "IllegalStateException|IllegalArgumentException|IndexOutOfBoundsException"
            + "|ArithmeticException|UnsupportedOperationException|NoSuchElementException|RuntimeException";

    private static final class Body {
        String header;
        String text;
        int lines;
    }

    /** The text without comments; what stands in quotes becomes empty. */
    private static String bare(String source) {
        return source.replaceAll("(?s)/\\*.*?\\*/", "").replaceAll("//[^\n]*", "")
                .replaceAll("\"[^\"\n]*\"", "\"\"").replaceAll("'(\\\\.|[^'\\\\])'", "' '");
    }

    private static Set<String> found(String pattern, String text) {
        Set<String> out = new TreeSet<>();
        Matcher matcher = Pattern.compile(pattern).matcher(text);
        while (matcher.find()) {
            out.add(matcher.groupCount() > 0 ? matcher.group(1) : matcher.group());
        }
        return out;
    }

    private static void hasNone(String pattern, String text) {
        is("[]", found(pattern, text).toString());
    }

    /** All methods and constructors: a header with parameters, and what stands between its braces. */
    private static List<Body> bodies(String text) {
        List<Body> out = new ArrayList<>();
        Matcher matcher = Pattern.compile("(?m)^ +((?:(?:public|private|static|final) )*[\\w\\[\\]]+(?: \\w+)?"
                + "\\([^;{}()]*\\)(?:\\s+throws [\\w, ]+)?) \\{").matcher(text);
        while (matcher.find()) {
            if (!matcher.group(1).matches("(if|for|while|switch|catch|else)\\b.*")) {
                int end = matcher.end();
                for (int open = 1; open > 0; end++) {
                    open += text.charAt(end) == '{' ? 1 : text.charAt(end) == '}' ? -1 : 0;
                }
                Body body = new Body();
                body.header = matcher.group(1);
                body.text = text.substring(matcher.end(), end - 1);
                body.lines = body.text.split("\n", -1).length + 1;
                out.add(body);
            }
        }
        return out;
    }

    private static boolean isConstructor(Body body) {
        return body.header.matches("(?s)(public |private )?[A-Z]\\w*\\(.*");
    }

    private static void methods(String text) {
        List<Body> all = bodies(text);
        int many = 0;
        for (Body body : all) {
            many += isConstructor(body) ? 0 : 1;
        }
        says("this test finds all methods");
        is(methodsOf(allClasses()), many);
        for (Body body : all) {
            says("rule 11: at most seven parameters, some sixty lines: " + body.header);
            int parameters = body.header.replaceAll("(?s)^[^(]*\\(|\\).*", "").split(",").length;
            is(true, parameters <= 7 && body.lines <= 62);
            says("the room: no call makes an object or array but an exception: " + body.header);
            if (!isConstructor(body)) {
                hasNone("new (?!(?:" + EXCEPTIONS + ")\\()\\w+", body.text);
            }
            says("rule 6: no throw in a constructor: " + body.header);
            if (isConstructor(body)) {
                hasNone("throw", body.text);
            }
            says("rule 8: a method that calls itself is private and static: " + body.header);
            String name = body.header.replaceAll("(?s)\\(.*", "").replaceAll(".* ", "");
            boolean callsItself = Pattern.compile("(?<![.\\w])" + name + "\\(").matcher(body.text).find();
            is(true, isConstructor(body) || !callsItself || body.header.startsWith("private static "));
        }
    }

    private static List<Class<?>> allClasses() {
        List<Class<?>> all = new ArrayList<>(List.of(Seattable.class.getDeclaredClasses()));
        all.add(Seattable.class);
        return all;
    }

    private static int methodsOf(List<Class<?>> classes) {
        int many = 0;
        for (Class<?> owner : classes) {
            many += owner.getDeclaredMethods().length;
        }
        return many;
    }

    private static void classes() {
        List<Class<?>> all = allClasses();
        says("rule 11: some twelve classes");
        is(true, all.size() <= 12);
        for (Class<?> owner : all) {
            int fields = 0;
            for (Field field : owner.getDeclaredFields()) {
                boolean isStatic = Modifier.isStatic(field.getModifiers());
                fields += isStatic ? 0 : 1;
                says("rule 5: static fields are final: " + field);
                is(true, !isStatic || Modifier.isFinal(field.getModifiers()));
            }
            says("rule 11: some twenty fields: " + owner);
            is(true, fields <= 20);
        }
    }

    public static void main(String[] args) throws IOException {
        String source = Files.readString(SOURCE, StandardCharsets.ISO_8859_1);
        String text = bare(source);
        says("rule 1: no package line");
        hasNone("(?m)^package", text);
        says("rule 4: no library but what it lists");
        is("[java.util.NoSuchElementException]", found("import ([^;]*);", text).toString());
        is("[Integer.bitCount, Integer.compare, Long.compare, System.arraycopy]",
                found("\\b((?:Integer|Long|Math|System|Arrays|List|String|Character)\\.\\w+)", text).toString());
        hasNone("\\bjava\\.(?!util\\.NoSuchElementException)", text);
        says("rule 4: constants of texts have signs 1 to 127");
        hasNone("[^\\x01-\\x7f]", source);
        says("rule 3: no doubles and floats here");
        hasNone("\\b(double|float)\\b", text);
        says("rule 2: no lambda and no method reference");
        hasNone("->|::", text);
        says("rule 6: what is thrown");
        hasNone("throw (?!new (?:" + EXCEPTIONS + ")\\(\\);)[^;]*", text);
        says("rule 6: no try, and nothing of what the machine throws is answered");
        hasNone("\\b(try|catch|finally|synchronized|assert)\\b", text);
        says("rule 10: texts are not joined by +");
        hasNone("\"\\s*\\+|\\+\\s*\"|\\+=\\s*\"", text);
        says("rule 9: no loop without a bound");
        hasNone("while \\(true\\)|for \\([^;]*;\\s*;", text);
        says("rule 5: no static initialiser");
        hasNone("static \\{", text);
        methods(text);
        classes();
        finish("LanguageTest");
    }
}
