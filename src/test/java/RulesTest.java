import java.lang.reflect.Constructor;
import java.lang.reflect.Field;
import java.lang.reflect.Method;
import java.lang.reflect.Modifier;
import java.nio.charset.StandardCharsets;
import java.nio.file.Files;
import java.nio.file.Path;
import java.util.Set;
import java.util.TreeSet;
import java.util.regex.Matcher;
import java.util.regex.Pattern;

/** What LANGUAGE.md asks of the source and of the face, as far as a test can see it. */
public final class RulesTest {
    private static final Check CHECK = new Check();
    private static final String[] BANNED = {"\\bthrow\\b", "\\btry\\b", "\\bcatch\\b", "\\bsynchronized\\b",
        "\\bassert\\b", "\\bimport\\b", "\\bpackage\\b", "->", "::", "Exact\\b", "\\brecord\\b", "\\bhashCode\\b",
        "\\btoString\\b", "\\bSystem\\.(?!arraycopy)", "\\bThread\\b", "\\bRandom\\b", "\\bdouble\\b", "\\bfloat\\b",
        "\\[\\]\\s*\\[\\]", "\\bwhile\\s*\\(true\\)", "for\\s*\\(;;\\)"};

    public static void main(String[] args) throws Exception {
        source(Files.readString(Path.of("src/main/java/HandLine.java")));
        face(Files.readString(Path.of("../shared/DOC.md"), StandardCharsets.UTF_8));
        members();
        CHECK.finish();
    }

    private static void source(String text) {
        CHECK.due("signs beyond 127", text.chars().filter(c -> c > 127).count(), 0);
        String bare = text.replaceAll("(?s)/\\*.*?\\*/", "").replaceAll("//.*", "");
        for (String banned : BANNED) {
            CHECK.due("uses of " + banned, Pattern.compile(banned).matcher(bare).results().count(), 0);
        }
        CHECK.due("classes, twelve at most", Pattern.compile("\\bclass\\b").matcher(bare).results().count() <= 12
                ? 1 : 0, 1);
        methodLengths(bare);
    }

    /** A method begins with a line of its own that ends with an open brace, and ends by its indent. */
    private static void methodLengths(String bare) {
        String[] lines = bare.split("\n");
        for (int i = 0; i < lines.length; i++) {
            Matcher m = Pattern.compile("^( {4}| {8})\\w.*\\) \\{$").matcher(lines[i]);
            if (m.find()) {
                int end = i;
                while (!lines[end].equals(m.group(1) + "}")) {
                    end++;
                }
                CHECK.due("lines of " + lines[i].trim(), end - i < 60 ? 1 : 0, 1);
            }
        }
    }

    /** The public members are those of the document's code block, and no others. */
    private static void face(String document) {
        int from = document.indexOf("public final class HandLine {");
        String block = document.substring(from, document.indexOf("```", from));
        Set<String> due = new TreeSet<>();
        for (String line : block.split("\n")) {
            Matcher m = Pattern.compile("public (\\w+) (\\w+)\\((.*)\\);").matcher(line);
            if (m.find()) {
                due.add(m.group(1) + " " + m.group(2) + "(" + m.group(3).replaceAll("(\\w+) \\w+", "$1") + ")");
            }
        }
        Set<String> got = new TreeSet<>();
        for (Method m : HandLine.class.getDeclaredMethods()) {
            if (!Modifier.isPrivate(m.getModifiers())) {
                StringBuilder sb = new StringBuilder();
                for (Class<?> type : m.getParameterTypes()) {
                    sb.append(sb.length() == 0 ? "" : ", ").append(type.getName());
                }
                got.add(m.getReturnType().getName() + " " + m.getName() + "(" + sb + ")");
            }
        }
        CHECK.due("methods of the face", got.equals(due) ? 1 : 0, 1);
        CHECK.due("methods of the face", due.size(), 74);
    }

    private static void members() {
        Set<String> open = new TreeSet<>();
        for (Method m : HandLine.class.getDeclaredMethods()) {
            if (Modifier.isPublic(m.getModifiers())) {
                open.add(m.getName());
            }
        }
        for (Field f : HandLine.class.getDeclaredFields()) {
            boolean isNone = f.getName().equals("NONE");
            CHECK.due(f.getName(), Modifier.isPrivate(f.getModifiers()) == isNone ? 0 : 1, 1);
        }
        for (Constructor<?> c : HandLine.class.getDeclaredConstructors()) {
            CHECK.due("constructor", c.getParameterCount(), 0);
        }
        CHECK.due("final", Modifier.isFinal(HandLine.class.getModifiers()) ? 1 : 0, 1);
        ofClass(HandLine.class, open);
        for (Class<?> inside : HandLine.class.getDeclaredClasses()) {
            CHECK.due(inside + " static", Modifier.isStatic(inside.getModifiers()) ? 1 : 0, 1);
            CHECK.due(inside + " not public", Modifier.isPublic(inside.getModifiers()) ? 1 : 0, 0);
            // Rule 12: an object that is being made hands out nothing of it, if nobody can be given anything.
            for (Constructor<?> c : inside.getDeclaredConstructors()) {
                CHECK.due(c + " is given nothing", c.getParameterCount(), 0);
            }
            ofClass(inside, open);
        }
    }

    private static void ofClass(Class<?> type, Set<String> open) {
        int fields = 0;
        for (Field f : type.getDeclaredFields()) {
            boolean isStatic = Modifier.isStatic(f.getModifiers());
            fields += isStatic ? 0 : 1;
            CHECK.due(f + " final if static", isStatic && !Modifier.isFinal(f.getModifiers()) ? 1 : 0, 0);
        }
        CHECK.due("fields of " + type, fields <= 20 ? 1 : 0, 1);
        for (Method m : type.getDeclaredMethods()) {
            CHECK.due(m + " parameters", m.getParameterCount() <= 7 ? 1 : 0, 1);
            boolean isFace = type == HandLine.class && Modifier.isPublic(m.getModifiers());
            CHECK.due(m + " bears a public name", !isFace && open.contains(m.getName()) ? 1 : 0, 0);
        }
    }
}
