import java.io.IOException;
import java.lang.reflect.Field;
import java.lang.reflect.Method;
import java.lang.reflect.Modifier;
import java.nio.file.Files;
import java.nio.file.Path;
import java.util.Set;
import java.util.TreeSet;
import java.util.regex.Matcher;
import java.util.regex.Pattern;

/** Rules of LANGUAGE.md that can be looked at by a program. */
public final class RulesTest {
    private static final Path SOURCE = Path.of("src/main/java/SwallowSurvey.java");
    private static final Set<String> FACE = new TreeSet<>(Set.of("int state(int)", "boolean land(int,int)",
            "boolean tell(int,int,int)", "boolean dig(int)", "boolean fill(int)", "boolean undo()",
            "boolean barn(int)", "boolean mirror(int,int,boolean)", "int nest(int,int)",
            "int swallow(int,int,int,int,int)", "int feed(int,int,int,int,int)", "boolean end(int)", "int text(int)",
            "int fault(int)", "int survey()", "int spring()", "int of(int,int)", "int yard(int,int,int,int)",
            "int suit(int,int)", "int steal(int,int,int)", "int ends(int,int)", "int plan(int,int,int)",
            "int hatch(int,int,int)", "int odds(int,int)", "boolean claim(int,int,boolean)", "int back(int)",
            "int part(int,int)", "boolean image(boolean)", "int look(int)"));
    private static int wrong = 0;

    private static void must(boolean so, String what) {
        if (!so) {
            wrong++;
            System.out.println("not kept: " + what);
        }
    }

    public static void main(String[] args) throws IOException {
        face();
        must(SwallowSurvey.class.getDeclaredClasses().length <= 11, "at most some twelve classes");
        inside(SwallowSurvey.class, false);
        for (Class<?> c : SwallowSurvey.class.getDeclaredClasses()) {
            must(Modifier.isStatic(c.getModifiers()), c + " is static");
            inside(c, true);
        }
        words(Files.readString(SOURCE));
        System.out.println(wrong == 0 ? "the rules are kept" : wrong + " rules are not kept");
        if (wrong != 0) {
            System.exit(1);
        }
    }

    private static void face() {
        Class<?> c = SwallowSurvey.class;
        must(Modifier.isPublic(c.getModifiers()) && Modifier.isFinal(c.getModifiers()), "public final");
        Set<String> seen = new TreeSet<>();
        for (Method m : c.getDeclaredMethods()) {
            if (!Modifier.isPrivate(m.getModifiers()) && !m.isSynthetic()) {
                must(Modifier.isPublic(m.getModifiers()) && !Modifier.isStatic(m.getModifiers()), m + " is public");
                StringBuilder types = new StringBuilder();
                for (Class<?> t : m.getParameterTypes()) {
                    types.append(types.length() == 0 ? "" : ",").append(t);
                }
                seen.add(m.getReturnType() + " " + m.getName() + "(" + types + ")");
            }
        }
        must(seen.equals(FACE), "the face: " + seen);
        must(c.getDeclaredConstructors().length == 1 && c.getConstructors().length == 1
                && c.getConstructors()[0].getParameterCount() == 0, "one public constructor");
        for (Field f : c.getDeclaredFields()) {
            must(Modifier.isPrivate(f.getModifiers()) || f.getName().equals("NONE"), f + " is private");
        }
    }

    private static void inside(Class<?> c, boolean nested) {
        int fields = 0;
        for (Field f : c.getDeclaredFields()) {
            boolean constant = Modifier.isStatic(f.getModifiers());
            fields += constant ? 0 : 1;
            must(!constant || Modifier.isFinal(f.getModifiers()), f + " is final");
            must(!constant || Set.of(int.class, int[].class, String.class).contains(f.getType()), f + " is a constant");
        }
        must(fields <= 20, c + " has at most some twenty fields");
        for (Method m : c.getDeclaredMethods()) {
            must(m.getParameterCount() <= 7, m + " takes at most seven parameters");
            must(!nested && Modifier.isPublic(m.getModifiers())
                    || FACE.stream().noneMatch(f -> f.contains(" " + m.getName() + "(")),
                    m + " bears no name of the face");
        }
    }

    private static void words(String source) {
        String code = source.replaceAll("(?s)/\\*.*?\\*/", "").replaceAll("//[^\n]*", "");
        for (String word : new String[] {"throw", "throws", "try", "catch", "synchronized", "assert", "protected",
            "package", "volatile", "transient", "native", "double", "float", "long", "Random", "Thread",
            "equals", "hashCode", "toString", "goto"}) {
            must(!Pattern.compile("\\b" + word + "\\b").matcher(code).find(), "no word " + word);
        }
        for (String sign : new String[] {"->", "::", "while (true)", "for (;;)", "static {", "Exact("}) {
            must(!code.contains(sign), "no sign " + sign);
        }
        must(source.chars().allMatch(c -> c == 10 || c >= 32 && c < 127), "plain signs alone");
        Matcher imports = Pattern.compile("import ([\\w.]+);").matcher(code);
        while (imports.find()) {
            must(imports.group(1).equals("java.util.Arrays"), "import " + imports.group(1));
        }
        Matcher calls = Pattern.compile("\\b(Arrays|System|Math|Integer|Long)\\.(\\w+)").matcher(code);
        while (calls.find()) {
            must(Set.of("Arrays.fill", "Arrays.copyOf", "System.arraycopy", "Math.abs", "Math.max", "Math.min")
                    .contains(calls.group()), calls.group() + " is of the library that is left");
        }
        methodLengths(code.split("\n"));
    }

    /** A method begins with a head that ends in "{" and ends with "}" as far in. */
    private static void methodLengths(String[] lines) {
        Pattern head = Pattern.compile("^(    |        )(?! )[\\w\\[\\] ]+\\([^;]*\\{$");
        for (int i = 0; i < lines.length; i++) {
            Matcher m = head.matcher(lines[i]);
            if (m.find()) {
                int end = i;
                while (end < lines.length && !lines[end].equals(m.group(1) + "}")) {
                    end++;
                }
                must(end - i <= 60, "short: " + lines[i].trim() + " has " + (end - i) + " lines");
            }
        }
    }
}
