import java.lang.reflect.Field;
import java.lang.reflect.Method;
import java.lang.reflect.Modifier;
import java.nio.file.Files;
import java.nio.file.Path;
import java.util.HashSet;
import java.util.Set;
import java.util.TreeSet;
import java.util.regex.Matcher;
import java.util.regex.Pattern;

/** The rules of LANGUAGE.md that a test can see, and calls with any arguments at all. */
public final class LanguageTest {
    private static final Path SOURCE = Path.of("src/main/java/CorkConfessions.java");

    public static void main(String[] args) throws Exception {
        face();
        text();
        anyArguments();
        Cork.finish("LanguageTest");
    }

    private static void face() {
        Class<?> type = CorkConfessions.class;
        Cork.due("public and final", type.getModifiers() & 0xffff, Modifier.PUBLIC | Modifier.FINAL);
        Set<String> names = new TreeSet<>();
        Set<String> hidden = new HashSet<>();
        for (Method m : type.getDeclaredMethods()) {
            if (Modifier.isPublic(m.getModifiers())) {
                names.add(m.getName());
            } else {
                Cork.due(m.getName() + " is private", Modifier.isPrivate(m.getModifiers()), true);
                hidden.add(m.getName());
            }
        }
        Set<String> due = new TreeSet<>(Set.of("screw", "feed", "law", "witness", "draw", "tried", "witnessIs", "layerIs"));
        due.addAll(Set.of("plan", "heard", "agree", "atOdds", "years", "peak", "who", "jury", "tasters", "jugs"));
        due.addAll(Set.of("cellar", "wear", "seed", "keep", "undo", "check", "count"));
        Cork.due("the public methods " + names, names.equals(due), true);
        for (Class<?> inner : type.getDeclaredClasses()) {
            Cork.due(inner + " is static", Modifier.isStatic(inner.getModifiers()), true);
            Cork.due(inner + " is not public", Modifier.isPublic(inner.getModifiers()), false);
            Cork.due(inner + " fields", inner.getDeclaredFields().length <= 20, true);
            for (Method m : inner.getDeclaredMethods()) {
                hidden.add(m.getName());
            }
        }
        Cork.due("classes", type.getDeclaredClasses().length <= 12, true);
        hidden.retainAll(names);
        Cork.due("names of public methods elsewhere " + hidden, hidden.size(), 0);
        for (Field f : type.getDeclaredFields()) {
            boolean open = f.getName().equals("NONE");
            Cork.due(f + " visible", Modifier.isPublic(f.getModifiers()), open);
            Cork.due(f + " private", Modifier.isPrivate(f.getModifiers()), !open);
            Cork.due(f + " static and not final",
                Modifier.isStatic(f.getModifiers()) && !Modifier.isFinal(f.getModifiers()), false);
        }
    }

    private static void text() throws Exception {
        String source = Files.readString(SOURCE);
        String code = source.replaceAll("(?s)/\\*.*?\\*/", "").replaceAll("//[^\n]*", "");
        String words = "throw throws try catch finally synchronized assert while do volatile transient native strictfp "
            + "double float hashCode toString Object Exact System.nanoTime Random Thread";
        for (String word : words.split(" ")) {
            Cork.due("uses " + word, Pattern.compile("\\b" + Pattern.quote(word) + "\\b").matcher(code).find(), false);
        }
        Cork.due("a lambda or an arrow", code.contains("->"), false);
        Cork.due("a method reference", code.contains("::"), false);
        Cork.due("an annotation", code.contains("@"), false);
        Matcher imports = Pattern.compile("(?m)^import (.*);$").matcher(code);
        while (imports.find()) {
            Cork.due("import " + imports.group(1), imports.group(1).equals("java.util.Arrays"), true);
        }
        Cork.due("ASCII alone", source.chars().allMatch(c -> c < 128), true);
        int line = 0;
        int opened = 0;
        for (String row : source.split("\n")) {
            line++;
            if (row.matches(" {4,8}[a-z].*\\) \\{")) {
                opened = line;
                Cork.due("parameters in line " + line, row.chars().filter(c -> c == ',').count() <= 6, true);
            }
            if (row.matches(" {4,8}\\}")) {
                Cork.due("lines of the method that ends in " + line, line - opened <= 60 || opened == 0, true);
                opened = 0;
            }
        }
    }

    /** Whatever comes, each call answers. */
    private static void anyArguments() throws Exception {
        int[] odd = {Integer.MIN_VALUE, Integer.MIN_VALUE + 1, -65536, -101, -1, 0, 1, 2, 6, 12, 99, 100, 101, 255, 65535,
            65536, Integer.MAX_VALUE - 1, Integer.MAX_VALUE};
        for (Method m : CorkConfessions.class.getDeclaredMethods()) {
            if (!Modifier.isPublic(m.getModifiers()) || m.getName().equals("feed")) {
                continue;
            }
            int many = m.getParameterCount();
            int rows = (int) Math.round(Math.pow(odd.length, many));
            Cork c = new Cork();
            c.witness(0, "61c60a");
            c.law("d1(1=1)");
            for (int row = 0; row < rows; row++) {
                Object[] args = new Object[many];
                for (int i = 0, rest = row; i < many; i++, rest /= odd.length) {
                    args[i] = odd[rest % odd.length];
                }
                c.x.feed(row, Integer.MIN_VALUE, -1, row * 31, 0);
                Cork.due(m.getName(), m.invoke(c.x, args) != null, true);
            }
        }
    }
}
