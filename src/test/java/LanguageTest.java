import java.io.IOException;
import java.lang.reflect.Constructor;
import java.lang.reflect.Field;
import java.lang.reflect.Method;
import java.lang.reflect.Modifier;
import java.nio.file.Files;
import java.nio.file.Path;
import java.util.ArrayList;
import java.util.List;
import java.util.Set;
import java.util.TreeSet;
import java.util.regex.Matcher;
import java.util.regex.Pattern;

/** The public face of the document, and those rules of LANGUAGE.md that can be seen from outside. */
public final class LanguageTest {
    private static final String[] FACE = {
        "person 3", "ring 1", "stand 2", "ribbon 3", "at 2", "begin 0", "end 0", "pass 2", "walk 1", "girth 0",
        "step 1", "rows 0", "cloth 3", "beat 0", "picture 3", "pictureless 0", "wrong 0", "colours 2", "form 2",
        "akin 2", "feed 2", "figure 0", "told 2", "dance 1", "right 1", "slips 2", "fewest 2", "set 2", "spent 2",
        "act 3", "trace 1", "taken 2", "count 1", "tape 3", "item 3", "read 2", "shift 5"};
    private static final String[] FORBIDDEN = {"throw", "throws", "try", "catch", "synchronized", "assert", "->", "::",
        "@", "native", "volatile", "strictfp", "transient", "var ", "Exact", "MAX_VALUE", "System.out", "random",
        "equals(", "hashCode", "toString", "package ", "yield"};

    private static final Set<String> LIBRARY = Set.of("Arrays.fill", "Arrays.copyOf", "Arrays.copyOfRange",
        "System.arraycopy", "Math.abs", "Math.max", "Math.min", "Math.floorDiv", "Math.floorMod", "Integer.bitCount",
        "Integer.compare", "Integer.max", "Integer.min");

    public static void main(String[] args) throws IOException {
        face();
        classesInside();
        Path path = Path.of("src/main/java/MaypoleGreen.java");
        String source = Files.readString(path);
        forbidden(source);
        library(source);
        methodsAreShort(source);
        Check.finish("LanguageTest");
    }

    private static void face() {
        Class<?> c = MaypoleGreen.class;
        Check.due("public and final", Modifier.isPublic(c.getModifiers()) && Modifier.isFinal(c.getModifiers()));
        Set<String> due = new TreeSet<>(Set.of(FACE));
        Set<String> names = new TreeSet<>();
        for (String one : FACE) {
            names.add(one.substring(0, one.indexOf(' ')));
        }
        Set<String> there = new TreeSet<>();
        for (Method m : c.getDeclaredMethods()) {
            if (Modifier.isPublic(m.getModifiers())) {
                there.add(m.getName() + " " + m.getParameterCount());
                Check.due(m.getName() + " answers an int", m.getReturnType() == int.class);
                for (Class<?> p : m.getParameterTypes()) {
                    Check.due(m.getName() + " takes ints", p == int.class);
                }
            } else {
                Check.due(m.getName() + " is private", Modifier.isPrivate(m.getModifiers()));
                Check.due(m.getName() + " has a name of its own", !names.contains(m.getName()));
            }
        }
        Check.due("the methods " + there, there.equals(due));
        Constructor<?>[] made = c.getDeclaredConstructors();
        Check.due("one constructor", made.length, 1);
        Check.due("it is public", Modifier.isPublic(made[0].getModifiers()) && made[0].getParameterCount() == 0);
        Set<String> constants = new TreeSet<>();
        for (Field f : c.getDeclaredFields()) {
            if (Modifier.isPublic(f.getModifiers())) {
                constants.add(f.getName());
            } else {
                Check.due(f.getName() + " is private", Modifier.isPrivate(f.getModifiers()));
            }
        }
        Check.due("the constants " + constants, constants.equals(Set.of("NONE", "BAD", "STATE", "FULL")));
        Check.due("NONE", MaypoleGreen.NONE, -1);
        Check.due("BAD", MaypoleGreen.BAD, -2);
        Check.due("STATE", MaypoleGreen.STATE, -3);
        Check.due("FULL", MaypoleGreen.FULL, -4);
    }

    private static void classesInside() {
        List<Class<?>> all = new ArrayList<>(List.of(MaypoleGreen.class.getDeclaredClasses()));
        Check.due("classes", all.size() <= 11);
        Set<String> names = new TreeSet<>();
        for (String one : FACE) {
            names.add(one.substring(0, one.indexOf(' ')));
        }
        for (Class<?> c : all) {
            Check.due(c + " is static", Modifier.isStatic(c.getModifiers()));
            Check.due(c + " is not public", !Modifier.isPublic(c.getModifiers()));
            for (Method m : c.getDeclaredMethods()) {
                Check.due(c + "." + m.getName() + " has a name of its own", !names.contains(m.getName()));
            }
        }
        all.add(MaypoleGreen.class);
        for (Class<?> c : all) {
            int fields = 0;
            for (Field f : c.getDeclaredFields()) {
                if (Modifier.isStatic(f.getModifiers())) {
                    Check.due(f + " is final", Modifier.isFinal(f.getModifiers()));
                } else {
                    fields++;
                }
            }
            Check.due("fields of " + c + ": " + fields, fields <= 20);
            for (Method m : c.getDeclaredMethods()) {
                Check.due("parameters of " + m, m.getParameterCount() <= 7);
            }
        }
    }

    private static void forbidden(String source) {
        String code = source.replaceAll("(?s)/\\*.*?\\*/", "").replaceAll("//[^\n]*", "");
        for (String word : FORBIDDEN) {
            boolean letters = word.matches("[a-z]+");
            Pattern p = Pattern.compile(letters ? "\\b" + word + "\\b" : Pattern.quote(word));
            Matcher m = p.matcher(code);
            Check.due("no " + word, !m.find());
        }
        Matcher imports = Pattern.compile("(?m)^import (.*);").matcher(code);
        while (imports.find()) {
            Check.due("import " + imports.group(1), imports.group(1).equals("java.util.Arrays"));
        }
        Check.due("plain signs alone", source.chars().allMatch(c -> c < 127));
    }

    /** Of the library only what rule 4 lists, and Arrays over arrays of numbers alone. */
    private static void library(String source) {
        String code = source.replaceAll("(?s)/\\*.*?\\*/", "").replaceAll("//[^\n]*", "");
        Set<String> booleans = new TreeSet<>();
        Matcher rows = Pattern.compile("boolean\\[\\] (\\w+)").matcher(code);
        while (rows.find()) {
            booleans.add(rows.group(1));
        }
        Matcher calls = Pattern.compile("\\b([A-Z]\\w*)\\.(\\w+)\\((\\w*)").matcher(code);
        while (calls.find()) {
            String call = calls.group(1) + "." + calls.group(2);
            Check.due("rule 4 lists no " + call, LIBRARY.contains(call));
            Check.due(call + " over " + calls.group(3), !call.startsWith("Arrays.") || !booleans.contains(calls.group(3)));
        }
    }

    private static void methodsAreShort(String source) {
        String[] lines = source.split("\n");
        int from = -1;
        String indent = "";
        for (int i = 0; i < lines.length; i++) {
            Matcher m = Pattern.compile("^( {4}| {8})(?=[a-zA-Z]).*\\(.*").matcher(lines[i]);
            if (from < 0 && m.matches() && !lines[i].contains("=") && !lines[i].contains(" class ")) {
                from = i;
                indent = m.group(1);
            } else if (from >= 0 && lines[i].equals(indent + "}")) {
                Check.due("lines of " + lines[from].trim() + " " + (i - from + 1), i - from + 1 <= 60);
                from = -1;
            }
        }
    }
}
