import java.io.IOException;
import java.lang.reflect.Field;
import java.lang.reflect.Modifier;
import java.nio.charset.StandardCharsets;
import java.nio.file.Files;
import java.nio.file.Path;
import java.util.List;
import java.util.regex.Matcher;
import java.util.regex.Pattern;

/** The source keeps to those rules of LANGUAGE.md that can be seen from its words. */
public final class LanguageTest {
    private static final String SOURCE = "src/main/java/HoldTwo.java";
    private static final String[] BARRED = {"->", "::", "\\btry\\b", "\\bcatch\\b", "\\bfinally\\b", "\\bsynchronized\\b",
        "\\bassert\\b", "\\binstanceof\\b", "\\bdouble\\b", "\\bfloat\\b", "\\bSystem\\.(?!arraycopy)", "\\bRandom\\b", "Exact\\b",
        "\\bprotected\\b", "\\bpackage\\b", "\\bstatic\\s*\\{", "\\bwhile\\s*\\(true", "for\\s*\\(;;"};
    private static final int MOST_LINES = 60;
    private static final int MOST_CLASSES = 12;
    private static final int MOST_FIELDS = 20;

    private LanguageTest() {
    }

    public static void main(String[] args) throws IOException {
        Check check = new Check();
        String source = Files.readString(Path.of(SOURCE), StandardCharsets.US_ASCII);
        String code = source.replaceAll("(?s)/\\*.*?\\*/", "").replaceAll("//.*", "");
        for (String barred : BARRED) {
            check.that("barred", !Pattern.compile(barred).matcher(code).find(), barred);
        }
        Matcher imports = Pattern.compile("import ([\\w.]+);").matcher(code);
        while (imports.find()) {
            check.that("import", List.of("java.util.Arrays", "java.util.NoSuchElementException").contains(imports.group(1)), imports.group(1));
        }
        Matcher thrown = Pattern.compile("throw\\s+new\\s+(\\w+)").matcher(code);
        while (thrown.find()) {
            check.that("throw", thrown.group(1).equals("NoSuchElementException"), thrown.group(1));
        }
        int classes = code.split("\\bclass\\s").length - 1;
        check.that("classes", classes <= MOST_CLASSES, classes + " classes");
        methods(check, code);
        fields(check, HoldTwo.class);
        for (Class<?> inside : HoldTwo.class.getDeclaredClasses()) {
            fields(check, inside);
        }
        check.finish();
    }

    private static void fields(Check check, Class<?> owner) {
        int own = 0;
        for (Field field : owner.getDeclaredFields()) {
            own += Modifier.isStatic(field.getModifiers()) ? 0 : 1;
            check.that(owner + " " + field.getName(), !Modifier.isStatic(field.getModifiers()) || Modifier.isFinal(field.getModifiers()),
                "is static and not final");
        }
        check.that(owner.toString(), own <= MOST_FIELDS, own + " fields");
    }

    private static void methods(Check check, String code) {
        String[] lines = code.split("\n");
        Pattern head = Pattern.compile("^( {4}| {8})(?=\\S)(?!return|else|for|if|switch)[\\w\\[\\] ]+\\(([^)]*)\\)[\\w ]*\\{$");
        for (int i = 0; i < lines.length; i++) {
            Matcher matcher = head.matcher(lines[i]);
            if (matcher.matches()) {
                int end = i;
                while (!lines[end].equals(matcher.group(1) + "}")) {
                    end++;
                }
                check.that(lines[i], end - i < MOST_LINES, (end - i) + " lines");
                check.that(lines[i], matcher.group(2).split(",").length <= 7, "more than seven parameters");
            }
        }
    }
}
