import java.io.IOException;
import java.lang.reflect.Constructor;
import java.lang.reflect.Field;
import java.lang.reflect.Method;
import java.lang.reflect.Modifier;
import java.nio.file.Files;
import java.nio.file.Path;
import java.util.ArrayList;
import java.util.Arrays;
import java.util.List;
import java.util.Set;
import java.util.TreeSet;
import java.util.regex.Matcher;
import java.util.regex.Pattern;

/** The face as ../shared/DOC.md has it, and what can be seen of ../shared/LANGUAGE.md without reading the class. */
public final class LanguageTest {
    private static final String[] BANNED = {"->", "::", "\\bcatch\\b", "\\btry\\b", "\\bfinally\\b", "\\bsynchronized\\b", "\\bassert\\b",
        "\\bpackage\\b", "\\bprotected\\b", "\\bvar\\b", "\\bObject\\b", "\\bstatic \\{", "\\bnative\\b", "\\bvolatile\\b", "\"\\s*\\+",
        "\\+\\s*\"", "\\bhashCode\\b", "\\bgetClass\\b", "Exact\\(", "\\bThread\\b", "\\bString\\.", "\\bstrictfp\\b", "\\.valueOf\\b", "\\?>",
        "\\bObjects\\b", "\\bfloat\\b"};
    private static final Set<String> LIBRARY = Set.of("System.arraycopy", "Arrays.fill", "Arrays.copyOf", "Arrays.copyOfRange",
        "Math.floorMod", "Math.floorDiv", "Math.max", "Math.min", "Math.abs", "Integer.compare", "Long.compare", "List.of");
    private static final Set<String> IMPORTS = Set.of("java.util.ArrayList", "java.util.Arrays", "java.util.List");
    private static final Set<String> EXCEPTIONS = Set.of("IllegalStateException", "IllegalArgumentException",
        "IndexOutOfBoundsException", "ArithmeticException", "UnsupportedOperationException", "NoSuchElementException", "RuntimeException");

    private static int wrong;

    public static void main(String[] args) throws IOException {
        String source = Files.readString(Path.of("src/main/java/Backwardterms.java"));
        face(Files.readString(Path.of("../shared/DOC.md")));
        classes();
        words(source, source.replaceAll("(?s)/\\*.*?\\*/", "").replaceAll("//[^\\n]*", ""));
        methods(source.split("\n"));
        if (wrong > 0) System.exit(1);
        System.out.println("LanguageTest: nothing is against the rules");
    }

    private static void must(boolean isSo, String what) {
        if (isSo) return;
        wrong++;
        System.out.println("LanguageTest: " + what);
    }

    /** Rule 1: the public methods with their exceptions, and nothing else that is not private. */
    private static void face(String document) {
        Matcher block = Pattern.compile("(?s)```java\\n(.*?)```").matcher(document);
        must(block.find(), "the document has no face");
        Set<String> want = new TreeSet<>();
        for (String line : block.group(1).split("\n")) {
            if (line.startsWith("    ")) want.add(line.trim().replaceAll(" [a-z]\\w*([,)])", "$1").replace(" ", ""));
        }
        Set<String> got = new TreeSet<>();
        for (Constructor<?> c : Backwardterms.class.getDeclaredConstructors()) got.add(told(c.getModifiers(), "", c.getName(), c.getParameterTypes(), c.getExceptionTypes()));
        for (Method m : Backwardterms.class.getDeclaredMethods()) {
            if (Modifier.isPrivate(m.getModifiers())) continue;
            got.add(told(m.getModifiers(), m.getReturnType().getSimpleName(), m.getName(), m.getParameterTypes(), m.getExceptionTypes()));
        }
        must(got.equals(want), "the face is " + got + ", due is " + want);
        for (Field f : Backwardterms.class.getDeclaredFields()) must(Modifier.isPrivate(f.getModifiers()), "a field is seen: " + f);
        must(Modifier.isFinal(Backwardterms.class.getModifiers()), "the class is not final");
    }

    private static String told(int modifiers, String type, String name, Class<?>[] parameters, Class<?>[] exceptions) {
        StringBuilder s = new StringBuilder(Modifier.toString(modifiers) + type + name + "(");
        for (int i = 0; i < parameters.length; i++) s.append(i == 0 ? "" : ",").append(parameters[i].getSimpleName());
        s.append(")");
        for (int i = 0; i < exceptions.length; i++) s.append(i == 0 ? "throws" : ",").append(exceptions[i].getSimpleName());
        return s.append(";").toString();
    }

    /** Rules 1, 5 and 11: names, fields and how many there are. */
    private static void classes() {
        List<Class<?>> all = new ArrayList<>(List.of(Backwardterms.class.getDeclaredClasses()));
        for (Class<?> c : all) {
            must(Modifier.isStatic(c.getModifiers()) && !Modifier.isPublic(c.getModifiers()), c + " is no class of its own inside");
        }
        all.add(Backwardterms.class);
        must(all.size() <= 12, all.size() + " classes");
        Set<String> names = new TreeSet<>();
        for (Method m : Backwardterms.class.getDeclaredMethods()) if (Modifier.isPublic(m.getModifiers())) names.add(m.getName());
        for (Class<?> c : all) {
            int fields = 0;
            for (Field f : c.getDeclaredFields()) {
                if (!Modifier.isStatic(f.getModifiers())) fields++;
                else must(Modifier.isFinal(f.getModifiers()), "a static field changes: " + f);
            }
            must(fields <= 20, c + " has " + fields + " fields");
            for (Method m : c.getDeclaredMethods()) {
                must(m.getParameterCount() <= 7, m + " takes too many parameters");
                must(!m.isSynthetic(), m + " is made by the compiler");
                must(!Modifier.isPrivate(m.getModifiers()) || !names.contains(m.getName()), m + " has a public one's name");
            }
        }
    }

    /** Rules 3, 4, 6 and 10: the words that stand in the source. */
    private static void words(String source, String code) {
        for (int i = 0; i < source.length(); i++) must(source.charAt(i) < 127, "a sign that is none of ASCII");
        String bare = code.replaceAll("throw new \\w+\\(\"[^\"]*\"\\);", "THROW;");
        must(!bare.contains("throw "), "a throw that is not of a new exception with a written text");
        for (String banned : BANNED) must(!Pattern.compile(banned).matcher(bare).find(), "the source has " + banned);
        Matcher thrown = Pattern.compile("throw new (\\w+)").matcher(code);
        while (thrown.find()) must(EXCEPTIONS.contains(thrown.group(1)), "throws " + thrown.group(1));
        Matcher imported = Pattern.compile("import ([\\w.*]+);").matcher(code);
        while (imported.find()) must(IMPORTS.contains(imported.group(1)), "imports " + imported.group(1));
        Matcher called = Pattern.compile("\\b(?:System|Arrays|Math|Integer|Long|Character|List|Short|Double|Boolean)\\.\\w+").matcher(code);
        while (called.find()) must(LIBRARY.contains(called.group()), "calls " + called.group());
        Matcher looped = Pattern.compile("while \\(true\\)|for \\(;;\\)|for \\([^;]*;\\s*;").matcher(code);
        must(!looped.find(), "a loop without an end");
    }

    /** Rule 11: methods of sixty lines at most. */
    private static void methods(String[] lines) {
        for (int from = 0; from < lines.length; from++) {
            if (!lines[from].matches(" +[\\w\\[\\] ]+\\(.*\\).* \\{") || lines[from].matches(" +(for|if|while|switch|else).*")) continue;
            String end = lines[from].replaceAll("\\S.*", "") + "}";
            int to = from;
            while (to < lines.length && !lines[to].equals(end)) to++;
            must(to - from <= 60, "sixty lines are not enough for: " + lines[from].trim());
        }
        must(Arrays.stream(lines).allMatch(l -> l.length() <= 150), "a line of more than 150 signs");
    }
}
