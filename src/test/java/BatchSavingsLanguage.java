import java.nio.file.Files;
import java.nio.file.Path;
import java.util.ArrayList;
import java.util.List;
import java.util.Set;
import java.util.TreeSet;
import java.util.regex.Matcher;
import java.util.regex.Pattern;

/** The rules of LANGUAGE.md that can be seen in the text of the class; the number of each stands before it. */
public final class BatchSavingsLanguage {
    private static final Path SOURCE = Path.of("src/main/java/BatchSavings.java");
    private static final Set<String> IMPORTS = Set.of("java.util.Arrays", "java.util.NoSuchElementException");
    private static final Set<String> LIBRARY = Set.of("Arrays.fill", "Math.max", "Integer.bitCount");
    private static final Set<String> EXCEPTIONS = Set.of("IllegalStateException", "IllegalArgumentException",
            "ArithmeticException", "UnsupportedOperationException", "NoSuchElementException");
    private static final int MOST_LINES = 60;
    private static final int MOST_PARAMETERS = 7;
    private static final int MOST_CLASSES = 12;
    private static final int MOST_FIELDS = 20;

    private static final List<String> wrong = new ArrayList<>();

    public static void main(String[] args) throws Exception {
        String text = Files.readString(SOURCE);
        String code = withoutComments(text);
        String bare = code.replaceAll("\"[^\"\\n]*\"", "\"\"");
        outside(bare);
        classes(bare);
        library(bare);
        staticFields(bare);
        exceptions(code, bare);
        methods(bare);
        rooms(bare);
        wrong.forEach(System.out::println);
        System.out.println(wrong.isEmpty() ? "the text keeps to the rules" : wrong.size() + " wrong");
        if (!wrong.isEmpty()) {
            System.exit(1);
        }
    }

    private static String withoutComments(String text) {
        return text.replaceAll("(?s)/\\*.*?\\*/", "").replaceAll("//[^\\n]*", "");
    }

    private static void outside(String code) {
        none("0 a package", code, "(?m)^package\\b");
        for (String each : all(code, "import ([^;]+);")) {
            need("4 import " + each, IMPORTS.contains(each));
        }
        none("2 a lambda or a method reference", code, "->|::");
        none("3 a type outside", code, "\\b(Object|Map|Set|HashMap|Stream|Optional|BigInteger|var)\\b");
        none("6 a word outside", code, "\\b(finally|synchronized|assert|instanceof|try|catch|volatile|native)\\b");
        none("13 clock, chance or the world outside", code, "\\b(System|Random|Thread|Runtime|Files?|Instant)\\b");
    }

    private static void classes(String code) {
        List<String> heads = all(code, "(?m)^( *[a-z ]*\\bclass \\w+[^{]*)\\{");
        need("1 the class", heads.get(0).equals("public final class BatchSavings "));
        for (String head : heads.subList(1, heads.size())) {
            need("1 private and static: " + head, head.contains("private static final class"));
        }
        need("11 classes", heads.size() <= MOST_CLASSES);
        for (String body : code.split("\\bclass \\w+")) {
            need("11 fields", all(body, "(?m)^ +(private (?!static)[\\w\\[\\] ]+(?: = [^;]*)?;)").size() <= MOST_FIELDS);
        }
    }

    private static void library(String code) {
        for (String each : all(code, "\\b([A-Z][A-Za-z]+\\.\\w+)\\(")) {
            need("4 " + each, LIBRARY.contains(each));
        }
    }

    private static void staticFields(String code) {
        none("5 a static block", code, "static *\\{");
        for (String each : all(code, "(?m)^ +([a-z ]*\\bstatic [^({;]*;)")) {
            need("5 " + each, each.matches("private static final int [A-Z_]+ = -?\\d+;"));
        }
    }

    private static void exceptions(String code, String bare) {
        int throwing = all(bare, "\\b(throw)\\b").size();
        List<String> thrown = all(code, "throw new (\\w+)\\((?:\"[^\"]*\")?\\);");
        need("6 a throw of another form", throwing == thrown.size());
        for (String each : new TreeSet<>(thrown)) {
            need("6 " + each, EXCEPTIONS.contains(each));
        }
    }

    private static void methods(String code) {
        String form = "(?m)^( +)(?:public|private) [\\w\\[\\] ]*\\b(\\w+)\\(([^)]*)\\)[^;{]*\\{";
        Matcher head = Pattern.compile(form).matcher(code);
        int found = 0;
        while (head.find()) {
            found++;
            int end = code.indexOf("\n" + head.group(1) + "}", head.end());
            String body = code.substring(head.end(), end);
            need("11 lines of " + head.group(2), body.lines().count() <= MOST_LINES);
            need("11 parameters of " + head.group(2), head.group(3).split(",").length <= MOST_PARAMETERS);
            // 8: none of the class's methods calls itself.
            none("8 " + head.group(2) + " calls itself", body, "(?<![.\\w])(this\\.)?" + head.group(2) + "\\(");
        }
        need("11 the methods are not found", found == all(code, "(?m)^ +((public|private) [^=;{]*\\()").size());
    }

    /** 9, 12 and the room: loops count, and nothing but exceptions is made outside of fields and the constructor. */
    private static void rooms(String code) {
        none("9 a loop without a counter", code, "\\b(while|do)\\b");
        for (String each : all(code, "\\bfor \\(([^{]*)\\{")) {
            need("9 for (" + each, each.matches("int (\\w+) = [^;]+; \\1 (<|>=) [^;]+; \\1(\\+\\+|--)\\) "));
        }
        for (String line : code.lines().toList()) {
            boolean made = line.contains("throw new ") || line.matches(" +private final \\w+\\[\\] \\w+ = new .*")
                    || line.matches(" +(orders|rules|batches|matching) = new [A-Z]\\w+\\(\\w*\\);");
            need("12 " + line.strip(), !line.contains("new ") || made);
        }
    }

    private static List<String> all(String text, String pattern) {
        List<String> found = new ArrayList<>();
        Matcher matcher = Pattern.compile(pattern).matcher(text);
        while (matcher.find()) {
            found.add(matcher.group(1));
        }
        return found;
    }

    private static void none(String what, String text, String pattern) {
        need(what, !Pattern.compile(pattern).matcher(text).find());
    }

    private static void need(String what, boolean holds) {
        if (!holds) {
            wrong.add("rule " + what);
        }
    }
}
