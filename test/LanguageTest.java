import java.io.IOException;
import java.lang.reflect.Field;
import java.lang.reflect.Modifier;
import java.nio.file.Files;
import java.nio.file.Path;
import java.util.ArrayList;
import java.util.List;
import java.util.regex.Matcher;
import java.util.regex.Pattern;

/** Holds src/main/java/MergeJudge.java to those rules of LANGUAGE.md that its text shows. */
public final class LanguageTest {
    private static int wrong = 0;

    public static void main(String[] args) throws IOException {
        String source = Files.readString(Path.of("src/main/java/MergeJudge.java"));
        String code = withoutCommentsAndTexts(source);
        forbid(code, 6, "\\b(throw|throws|try|catch|finally|synchronized|assert)\\b");
        forbid(code, 2, "->|::|\\bnew\\s+\\w+\\s*\\([^()]*\\)\\s*\\{");
        forbid(code, 5, "\\bstatic\\s*\\{|\\bstatic\\s+(?!final\\b)\\w+(\\[\\])*\\s+\\w+\\s*(=|;)");
        forbid(code, 4, "\\b(import|package|System\\.(?!arraycopy)\\w+|Thread|Random|Object|Exception|\\w+Exact)\\b");
        forbid(code, 6, "\\b(equals|hashCode|toString)\\s*\\(");
        forbid(code, 1, "\\bprotected\\b|\\b(public|static)\\s+(class|interface|enum|record)\\b");
        forbid(source, 3, "[^\\x00-\\x7f]");
        methods(code);
        classes(code);
        System.out.println("LANGUAGE.md: " + wrong + " wrong");
        if (wrong != 0) {
            System.exit(1);
        }
    }

    private static void complain(String what) {
        wrong++;
        System.out.println(what);
    }

    private static String withoutCommentsAndTexts(String source) {
        return source.replaceAll("(?s)/\\*.*?\\*/", "").replaceAll("//[^\\n]*", "")
                .replaceAll("\"[^\"\\n]*\"", "\"\"").replaceAll("'[^']'", "'c'");
    }

    private static void forbid(String code, int rule, String pattern) {
        Matcher matcher = Pattern.compile(pattern).matcher(code);
        while (matcher.find()) {
            complain("rule " + rule + ": " + matcher.group());
        }
    }

    /** Length, number of parameters, and private names that are public ones (rules 11 and 1). */
    private static void methods(String code) {
        Pattern head = Pattern.compile("\\n {4,8}((?:public |private |static |final )*)(\\w+(?:\\[\\])*) (\\w+)\\(([^)]*)\\) \\{");
        Matcher matcher = head.matcher(code);
        List<String> open = new ArrayList<>();
        List<String> hidden = new ArrayList<>();
        while (matcher.find()) {
            String name = matcher.group(3);
            if (matcher.group(2).equals("return") || matcher.group(2).equals("else")) {
                continue;
            }
            (matcher.group(1).contains("public") ? open : hidden).add(name);
            int params = matcher.group(4).isBlank() ? 0 : matcher.group(4).split(",").length;
            if (params > 7) {
                complain("rule 11: " + name + " takes " + params + " parameters");
            }
            String indent = matcher.group().replaceAll("(?s)\\n( +).*", "$1");
            int end = code.indexOf("\n" + indent + "}", matcher.end());
            long lines = code.substring(matcher.start(), end).lines().count();
            if (lines > 60) {
                complain("rule 11: " + name + " has " + lines + " lines");
            }
        }
        if (open.size() != 79 || hidden.size() < 40) {
            complain("the methods could not be read: " + open.size() + ", " + hidden.size());
        }
        for (String name : hidden) {
            if (open.contains(name)) {
                complain("rule 1: " + name + " is hidden and public");
            }
        }
    }

    private static void classes(String code) {
        long classes = Pattern.compile("\\bclass \\w+").matcher(code).results().count();
        if (classes > 12) {
            complain("rule 11: " + classes + " classes");
        }
        fields(MergeJudge.class);
        for (Class<?> inside : MergeJudge.class.getDeclaredClasses()) {
            fields(inside);
            if (!Modifier.isStatic(inside.getModifiers()) || Modifier.isPublic(inside.getModifiers())) {
                complain("rule 1 or 2: " + inside);
            }
        }
    }

    private static void fields(Class<?> type) {
        int fields = 0;
        for (Field field : type.getDeclaredFields()) {
            fields += Modifier.isStatic(field.getModifiers()) ? 0 : 1;
            if (Modifier.isStatic(field.getModifiers()) && !Modifier.isFinal(field.getModifiers())) {
                complain("rule 5: " + field);
            }
        }
        if (fields > 20) {
            complain("rule 11: " + type + " has " + fields + " fields");
        }
    }
}
