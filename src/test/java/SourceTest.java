import java.io.IOException;
import java.lang.reflect.Field;
import java.lang.reflect.Method;
import java.lang.reflect.Modifier;
import java.nio.file.Files;
import java.nio.file.Path;
import java.util.HashSet;
import java.util.List;
import java.util.Set;
import java.util.regex.Matcher;
import java.util.regex.Pattern;

/** The class keeps to what of LANGUAGE.md can be seen without running it. */
public final class SourceTest {
    private static final String SOURCE = "src/main/java/StatuteBench.java";
    private static final String[] FORBIDDEN = {"\\bthrow\\b", "\\bthrows\\b", "\\btry\\b", "\\bcatch\\b", "\\bassert\\b",
        "\\bsynchronized\\b", "->", "::", "Exact\\b", "\\bSystem\\.(?!arraycopy)", "\\bRandom\\b", "\\bThread\\b",
        "\\bprotected\\b", "\\bnative\\b", "\\bvolatile\\b", "\\bimport (?!java\\.util\\.Arrays;)", "\\bpackage\\b",
        "\"\" \\+", "\\+ \"\"", "\\bwhile \\(true\\)", "\\bfor \\(;", "\\bequals\\b", "\\bhashCode\\b", "\\bdouble\\b",
        "\\bfloat\\b", "\\bObject\\b", "\\)\\s*\\{\\s*@"};

    public static void main(String[] args) throws IOException {
        String code = withoutTexts(Files.readString(Path.of(SOURCE)));
        for (String pattern : FORBIDDEN) {
            Matcher matcher = Pattern.compile(pattern).matcher(code);
            Due.is(pattern + " in the source", matcher.find(), false);
        }
        methods(code);
        classes();
        Due.end();
    }

    /** Texts become empty, and comments go. */
    private static String withoutTexts(String source) {
        return source.replaceAll("\"[^\"\n]*\"", "\"\"").replaceAll("(?s)/\\*.*?\\*/", "").replaceAll("//[^\n]*", "");
    }

    /** Methods stand four or eight blanks deep, and end with a bracket at that depth. */
    private static void methods(String code) {
        Pattern head = Pattern.compile("(?m)^( {4}| {8})(?:[\\w\\[\\]]+ )*?(\\w+)\\(([^()]*)\\) \\{$");
        Matcher matcher = head.matcher(code);
        int found = 0;
        while (matcher.find()) {
            found++;
            int end = code.indexOf("\n" + matcher.group(1) + "}", matcher.end());
            long lines = code.substring(matcher.start(), end).lines().count() + 1;
            Due.is(matcher.group(2) + " has at most 60 lines, has " + lines, lines <= 60, true);
            int parameters = matcher.group(3).split(",").length;
            Due.is(matcher.group(2) + " has at most 7 parameters", parameters <= 7, true);
        }
        Due.is("methods were found", found > 80, true);
    }

    private static void classes() {
        Class<?>[] inside = StatuteBench.class.getDeclaredClasses();
        Due.is("at most twelve classes", inside.length <= 11, true);
        Set<String> face = new HashSet<>();
        for (Method method : StatuteBench.class.getDeclaredMethods()) {
            if (Modifier.isPublic(method.getModifiers())) {
                Due.is(method.getName() + " is told once", face.add(method.getName()), true);
            }
        }
        fields(StatuteBench.class);
        for (Class<?> each : inside) {
            Due.is(each + " is static", Modifier.isStatic(each.getModifiers()), true);
            Due.is(each + " has no classes", each.getDeclaredClasses().length, 0);
            fields(each);
            for (Method method : each.getDeclaredMethods()) {
                Due.is(method + " bears no name of the face", face.contains(method.getName()), false);
            }
        }
        for (Method method : StatuteBench.class.getDeclaredMethods()) {
            boolean hidden = Modifier.isPrivate(method.getModifiers());
            Due.is(method + " bears no name of the face", hidden && face.contains(method.getName()), false);
        }
    }

    private static void fields(Class<?> each) {
        int many = 0;
        for (Field field : each.getDeclaredFields()) {
            if (Modifier.isStatic(field.getModifiers())) {
                boolean plain = List.of(int.class, long.class, String.class).contains(field.getType());
                Due.is(field + " is a constant", plain && Modifier.isFinal(field.getModifiers()), true);
            } else {
                many++;
            }
        }
        Due.is(each + " has at most twenty fields", many <= 20, true);
    }
}
