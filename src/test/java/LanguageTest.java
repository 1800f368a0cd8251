import java.io.IOException;
import java.lang.reflect.Field;
import java.lang.reflect.Method;
import java.lang.reflect.Modifier;
import java.nio.file.Files;
import java.nio.file.Path;
import java.util.regex.Matcher;
import java.util.regex.Pattern;

/** Some rules of LANGUAGE.md that a look at the text of the class can tell. */
public final class LanguageTest {
    private static final String[] NEVER = {
        "throw", "throws", "try", "catch", "finally", "synchronized", "assert", "import", "package", "protected",
        "float", "double", "native", "volatile", "transient", "equals", "hashCode", "toString", "System\\.out",
        "\\w+Exact", "->", "::", "String"
    };
    private static final int MOST_LINES = 60;
    private static final int MOST_CLASSES = 12;
    private static final int MOST_FIELDS = 20;
    private static final int MOST_PARAMETERS = 7;
    private static final int FACE_METHODS = 22;

    public static void main(String[] args) throws IOException {
        Due due = new Due();
        due.about("the language");
        String text = Files.readString(Path.of("src/main/java/SplitBeliefs.java"));
        String code = text.replaceAll("(?s)/\\*.*?\\*/", "").replaceAll("//[^\n]*", "");
        for (String word : NEVER) {
            String pattern = Character.isLetter(word.charAt(0)) ? "\\b" + word + "\\b" : word;
            due.is("uses of " + word, Pattern.compile(pattern).matcher(code).results().count(), 0);
        }
        due.is("signs beyond 127", text.chars().filter(sign -> sign > 127).count(), 0);
        due.is("few classes", Pattern.compile("\\bclass \\w").matcher(code).results().count() <= MOST_CLASSES ? 1 : 0, 1);
        lookAtMethods(code, due);
        lookAtMembers(SplitBeliefs.class, due);
        for (Class<?> inside : SplitBeliefs.class.getDeclaredClasses()) {
            lookAtMembers(inside, due);
        }
        due.end();
    }

    private static void lookAtMembers(Class<?> looked, Due due) {
        int fields = 0;
        for (Field field : looked.getDeclaredFields()) {
            boolean isStatic = Modifier.isStatic(field.getModifiers());
            fields += isStatic ? 0 : 1;
            due.is("static and not final: " + field, isStatic && !Modifier.isFinal(field.getModifiers()) ? 1 : 0, 0);
        }
        due.is("fields above 20 of " + looked, Math.max(MOST_FIELDS, fields), MOST_FIELDS);
        for (Method method : looked.getDeclaredMethods()) {
            due.is("parameters above 7 of " + method, Math.max(MOST_PARAMETERS, method.getParameterCount()), MOST_PARAMETERS);
        }
    }

    /** All objects are made with fields or in constructors: a call of a method makes none. */
    private static void lookAtMethods(String code, Due due) {
        Matcher methods = Pattern.compile("(?ms)^( {4}| {8})(?! )[\\w ]*\\b(int|void|boolean) (\\w+)\\([^)]*\\) \\{$.*?^\\1\\}$")
                .matcher(code);
        int seen = 0;
        while (methods.find()) {
            seen++;
            String method = methods.group(3);
            due.is("objects made in " + method, Pattern.compile("\\bnew\\b").matcher(methods.group()).results().count(), 0);
            due.is("lines above 60 of " + method, Math.max(MOST_LINES, methods.group().lines().count()), MOST_LINES);
        }
        due.is("all methods of the face seen", seen >= FACE_METHODS ? 1 : 0, 1);
    }
}
