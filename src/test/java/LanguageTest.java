import java.lang.reflect.Field;
import java.lang.reflect.Method;
import java.lang.reflect.Modifier;
import java.nio.file.Files;
import java.nio.file.Path;
import java.util.ArrayList;
import java.util.List;
import java.util.regex.Matcher;
import java.util.regex.Pattern;

/** Those rules of LANGUAGE.md that a look at the text, or at the classes, can tell; by their numbers. */
public final class LanguageTest {
    private static final Check CHECK = new Check("LanguageTest");
    private static final String[][] NOT_IN_IT = {
        {"2", "->|::"},
        {"4", "\\b(HashMap|Map|Set|Optional|Scanner|Random|System\\.(?!arraycopy)|Thread|Runtime|Class)\\b"},
        {"4", "\\bMath\\.\\w+Exact\\b"},
        {"6", "\\b(try|catch|finally|synchronized|assert|class \\w+ extends \\w*(Exception|Error|Throwable))\\b"},
        {"6", "\\b(equals|hashCode|toString)\\("},
        {"9", "\\bwhile \\(true\\)|for \\(;;\\)"},
        {"11", "\"[^\"]*\" \\+|\\+ \""},
    };

    public static void main(String[] args) throws Exception {
        List<String> lines = Files.readAllLines(Path.of("src/main/java/NetLoom.java"));
        List<String> code = new ArrayList<>();
        for (String line : lines) {
            String start = line.trim();
            boolean isComment = start.startsWith("/*") || start.startsWith("*") || start.startsWith("//");
            code.add(isComment ? "" : line);
            if (start.startsWith("import ") && !start.equals("import java.util.ArrayList;")) {
                CHECK.fail("rule 4: " + start);
            }
        }
        notInIt(code);
        thrown(code);
        lengths(code);
        for (Class<?> inside : NetLoom.class.getDeclaredClasses()) {
            counts(inside);
        }
        counts(NetLoom.class);
        CHECK.is("rule 11: at most some twelve classes", NetLoom.class.getDeclaredClasses().length <= 12, true);
        CHECK.end();
    }

    private static void notInIt(List<String> code) {
        for (String[] rule : NOT_IN_IT) {
            Pattern pattern = Pattern.compile(rule[1]);
            for (int i = 0; i < code.size(); i++) {
                if (pattern.matcher(code.get(i)).find()) {
                    CHECK.fail("rule " + rule[0] + ", line " + (i + 1) + ": " + code.get(i).trim());
                }
            }
        }
    }

    private static void thrown(List<String> code) {
        Pattern good = Pattern.compile("throw new (IndexOutOfBounds|IllegalArgument|IllegalState)Exception\\((\"[^\"]*\")?\\);");
        for (int i = 0; i < code.size(); i++) {
            if (code.get(i).contains("throw ") && !good.matcher(code.get(i)).find()) {
                CHECK.fail("rule 6, line " + (i + 1) + ": " + code.get(i).trim());
            }
        }
    }

    /** A method begins four or eight columns in, with a bracket behind its name, and ends at the same column. */
    private static void lengths(List<String> code) {
        Pattern start = Pattern.compile("^(    |        )[a-zA-Z].*\\)? (throws .*)?\\{$");
        for (int i = 0; i < code.size(); i++) {
            Matcher matcher = start.matcher(code.get(i));
            if (matcher.find() && code.get(i).contains("(")) {
                int end = i;
                while (end < code.size() && !code.get(end).equals(matcher.group(1) + "}")) {
                    end++;
                }
                CHECK.is("rule 11, line " + (i + 1) + ": at most sixty lines", end - i <= 60, true);
            }
        }
    }

    private static void counts(Class<?> type) {
        int fields = 0;
        for (Field field : type.getDeclaredFields()) {
            boolean isStatic = Modifier.isStatic(field.getModifiers());
            CHECK.is("rule 5: " + field + " is final", !isStatic || Modifier.isFinal(field.getModifiers()), true);
            fields += isStatic ? 0 : 1;
        }
        CHECK.is("rule 11: fields of " + type.getName() + ": " + fields + ", at most twenty", fields <= 20, true);
        List<String> face = new ArrayList<>();
        for (Method method : NetLoom.class.getDeclaredMethods()) {
            if (Modifier.isPublic(method.getModifiers())) {
                face.add(method.getName());
            }
        }
        for (Method method : type.getDeclaredMethods()) {
            boolean isOfFace = Modifier.isPublic(method.getModifiers());
            CHECK.is("rule 11: parameters of " + method + ", at most seven",
                    isOfFace || method.getParameterCount() <= 7, true);
            CHECK.is("rule 1: " + method + " bears a name of the face", !isOfFace && face.contains(method.getName()),
                    false);
        }
        CHECK.is("rule 2: " + type + " extends a class of the library",
                type.getSuperclass() != Object.class, false);
    }
}
