import java.io.IOException;
import java.lang.reflect.Constructor;
import java.lang.reflect.Field;
import java.lang.reflect.Method;
import java.lang.reflect.Modifier;
import java.nio.file.Files;
import java.nio.file.Path;
import java.util.Arrays;
import java.util.HashSet;
import java.util.Set;
import java.util.TreeSet;
import java.util.regex.Matcher;
import java.util.regex.Pattern;

/** The class's face, and what LANGUAGE.md forbids as far as a look at the source can tell. */
public final class Rules {
    private static final String[] FACE = {
        "feed int(int,int,int,int,int)", "text int(int)", "fault int()", "assume int(int,int,int)",
        "retract int(int,int,int)", "ask int(int,int,int)", "abolish int()", "told int(int)",
        "predicate int(int,int)", "nameAt int(int,int,int)", "clause int(int,int,int)", "literals int(int)",
        "value int(int,int,int)", "stage int(int,int,int)", "find int(int,int,int)", "table int(int,int)",
        "calls int(int,int,int)", "answer int(int,int,int)", "completed int(int)",
        "condition int(int,int,int,int,int)", "reach int(int,int,int)", "print long()", "status int(int)"};

    private static final String[] FORBIDDEN = {
        "->", "::", "\\btry\\b", "\\bcatch\\b", "\\bfinally\\b", "\\bsynchronized\\b", "\\bassert\\b", "\\bpackage\\b",
        "\\binstanceof\\b", "\\bdouble\\b", "\\bfloat\\b", "Exact\\b", "\\bvar\\b", "\\bprotected\\b", "@", "hashCode",
        "\\bequals\\(", "toString", "Object\\b", "System\\.(?!arraycopy)", "Arrays\\.(?!fill|copyOf)", "\\[\\]\\[\\]\\[\\]",
        "static \\{", "\\bString\\b", "\\bvolatile\\b", "\\bnative\\b", "\\btransient\\b"};

    public static void main(String[] args) throws IOException {
        face();
        inside();
        String path = args.length > 0 ? args[0] : "src/main/java/TabledGoals.java";
        String source = Files.readString(Path.of(path));
        String code = withoutComments(source);
        for (String pattern : FORBIDDEN) {
            Matcher m = Pattern.compile(pattern).matcher(code);
            Check.due("what is forbidden: " + pattern, () -> m.find() ? 1 : 0, 0);
        }
        Check.due("imports", () -> count(code, "import "), 2);
        Check.due("signs beyond 127", () -> source.chars().filter(c -> c > 127).count(), 0);
        methods(code);
        Check.end();
    }

    private static String withoutComments(String source) {
        return source.replaceAll("(?s)/\\*.*?\\*/", "").replaceAll("//[^\n]*", "").replaceAll("\"[^\"\n]*\"", "TEXT");
    }

    private static long count(String code, String part) {
        return (code.length() - code.replace(part, "").length()) / part.length();
    }

    private static String told(Method m) {
        StringBuilder b = new StringBuilder(m.getName() + " " + m.getReturnType() + "(");
        for (Class<?> c : m.getParameterTypes()) {
            b.append(b.charAt(b.length() - 1) == '(' ? "" : ",").append(c);
        }
        return b.append(")").toString();
    }

    private static void face() {
        Class<?> c = TabledGoals.class;
        Check.due("public and final", () -> Modifier.isPublic(c.getModifiers()) && Modifier.isFinal(c.getModifiers()) ? 1 : 0, 1);
        Set<String> seen = new TreeSet<>();
        Set<String> hidden = new TreeSet<>();
        for (Method m : c.getDeclaredMethods()) {
            if (Modifier.isPrivate(m.getModifiers())) {
                hidden.add(m.getName());
            } else {
                seen.add((Modifier.isPublic(m.getModifiers()) ? "" : "not public: ") + told(m));
            }
        }
        Set<String> due = new TreeSet<>(Arrays.asList(FACE));
        Set<String> more = new TreeSet<>(seen);
        more.removeAll(due);
        due.removeAll(seen);
        Check.due("methods missing " + due, due::size, 0);
        Check.due("methods too many " + more, more::size, 0);
        for (String f : FACE) {
            Check.due("a private " + f, () -> hidden.contains(f.substring(0, f.indexOf(' '))) ? 1 : 0, 0);
        }
        Constructor<?>[] makers = c.getDeclaredConstructors();
        Check.due("constructors", () -> makers.length * 10 + makers[0].getParameterCount(), 10);
        for (Field f : c.getDeclaredFields()) {
            int bits = f.getModifiers();
            boolean right = Modifier.isPrivate(bits) || f.getName().equals("NONE") && Modifier.isPublic(bits);
            right &= !Modifier.isStatic(bits) || Modifier.isFinal(bits);
            int answer = right ? 1 : 0;
            Check.due("field " + f.getName(), () -> answer, 1);
        }
    }

    private static void inside() {
        Class<?>[] inside = TabledGoals.class.getDeclaredClasses();
        Check.due("at most twelve classes", () -> inside.length <= 11 ? 1 : 0, 1);
        Set<String> names = new HashSet<>();
        for (String f : FACE) {
            names.add(f.substring(0, f.indexOf(' ')));
        }
        for (Class<?> c : inside) {
            int bits = c.getModifiers();
            Check.due("class " + c.getName(), () -> Modifier.isStatic(bits) && !Modifier.isPublic(bits) ? 1 : 0, 1);
            long fields = Arrays.stream(c.getDeclaredFields()).filter(f -> !Modifier.isStatic(f.getModifiers())).count();
            Check.due("fields of " + c.getName(), () -> fields <= 20 ? 1 : 0, 1);
            for (Method m : c.getDeclaredMethods()) {
                Check.due("method " + m, () -> names.contains(m.getName()) ? 1 : 0, 0);
                Check.due("parameters of " + m, () -> m.getParameterCount() <= 7 ? 1 : 0, 1);
            }
        }
    }

    /** A method begins at an indent of 4 or 8 with a brace at its end and ends at a brace with the same indent. */
    private static void methods(String code) {
        String[] lines = code.split("\n");
        for (int i = 0; i < lines.length; i++) {
            Matcher m = Pattern.compile("^( {4}| {8})(?! )[^=;]*\\).*\\{$").matcher(lines[i]);
            if (m.find()) {
                int end = i;
                while (end < lines.length && !lines[end].equals(m.group(1) + "}")) {
                    end++;
                }
                int length = end - i + 1;
                Check.due("length of " + lines[i].trim(), () -> length <= 60 ? 1 : 0, 1);
            }
        }
    }
}
