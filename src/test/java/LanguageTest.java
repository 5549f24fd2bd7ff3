import java.io.IOException;
import java.lang.reflect.Constructor;
import java.lang.reflect.Field;
import java.lang.reflect.Method;
import java.lang.reflect.Modifier;
import java.nio.charset.StandardCharsets;
import java.nio.file.Files;
import java.nio.file.Path;
import java.util.Set;
import java.util.TreeSet;
import java.util.regex.Matcher;
import java.util.regex.Pattern;

/** The face of the class, and those rules of LANGUAGE.md that a plain look at the source can tell. */
public final class LanguageTest {
    private static final Check CHECK = new Check();
    private static final String[] FACE = {"cabin 2", "person 4", "book 1", "cancel 1", "berth 1", "who 3", "aboard 2",
        "seats 4", "wish 2", "dine 2", "sitting 2", "burn 2", "storm 3", "miles 2", "run 5", "steamed 2", "feed 5",
        "end 1", "rules 0", "fault 0", "bet 5", "day 2", "wins 1", "pool 2", "trunk 1", "see 4", "where 3", "ill 2",
        "met 1", "count 1", "status 0"};

    public static void main(String[] args) throws IOException {
        face();
        nested();
        source();
        CHECK.finish();
    }

    private static void due(String call, int got, int want) {
        CHECK.due(call, got, want);
    }

    private static void face() {
        Set<String> wanted = new TreeSet<>(Set.of(FACE));
        Set<String> found = new TreeSet<>();
        for (Method m : SixDays.class.getDeclaredMethods()) {
            if (Modifier.isPublic(m.getModifiers())) {
                found.add(m.getName() + " " + m.getParameterCount());
                due("a method of int: " + m, m.getReturnType() == int.class ? 1 : 0, 1);
            } else {
                due("private: " + m, Modifier.isPrivate(m.getModifiers()) ? 1 : 0, 1);
            }
        }
        due("public methods " + found + " as told", found.equals(wanted) ? 1 : 0, 1);
        for (Field f : SixDays.class.getDeclaredFields()) {
            boolean told = f.getName().equals("NONE") && Modifier.isPublic(f.getModifiers());
            due("private, or NONE: " + f, told || Modifier.isPrivate(f.getModifiers()) ? 1 : 0, 1);
        }
        for (Constructor<?> c : SixDays.class.getDeclaredConstructors()) {
            due("the constructor: " + c, Modifier.isPublic(c.getModifiers()) ? c.getParameterCount() : -1, 0);
        }
        due("final", Modifier.isFinal(SixDays.class.getModifiers()) ? 1 : 0, 1);
        due("NONE", SixDays.NONE, -1);
    }

    private static void nested() {
        Set<String> names = new TreeSet<>();
        for (String told : FACE) {
            names.add(told.substring(0, told.indexOf(' ')));
        }
        Class<?>[] inside = SixDays.class.getDeclaredClasses();
        due("some twelve classes at most", Math.max(inside.length + 1, 12), 12);
        for (Class<?> c : inside) {
            due("static: " + c, Modifier.isStatic(c.getModifiers()) ? 1 : 0, 1);
            for (Method m : c.getDeclaredMethods()) {
                due("a name of its own: " + m, names.contains(m.getName()) ? 1 : 0, 0);
                due("seven parameters at most: " + m, Math.max(m.getParameterCount(), 7), 7);
            }
            int fields = 0;
            for (Field f : c.getDeclaredFields()) {
                boolean constant = Modifier.isStatic(f.getModifiers());
                due("static is final: " + f, constant && !Modifier.isFinal(f.getModifiers()) ? 1 : 0, 0);
                fields += constant ? 0 : 1;
            }
            due("some twenty fields at most: " + c, Math.max(fields, 20), 20);
        }
    }

    private static void source() throws IOException {
        String text = Files.readString(Path.of("src/main/java/SixDays.java"), StandardCharsets.UTF_8);
        String code = text.replaceAll("(?s)/\\*.*?\\*/", " ").replaceAll("//[^\n]*", " ");
        String[] banned = {"\\b(throw|try|catch|finally|synchronized|assert|package|native|volatile)\\b", "->", "::",
            "Exact\\b", "\\bInteger\\.M", "\\bObject\\b", "\\.(equals|hashCode|toString)\\("};
        for (String ban : banned) {
            due("found " + ban, Pattern.compile(ban).matcher(code).find() ? 1 : 0, 0);
        }
        Matcher imports = Pattern.compile("(?m)^import (.*);").matcher(code);
        while (imports.find()) {
            due("import " + imports.group(1), imports.group(1).equals("java.util.Arrays") ? 1 : 0, 1);
        }
        Matcher methods = Pattern.compile("(?ms)^( {4}| {8})[a-z][^;={]*\\([^;={]*\\) \\{\n.*?^\\1\\}").matcher(code);
        int seen = 0;
        while (methods.find()) {
            seen++;
            int lines = methods.group().split("\n").length;
            due("some sixty lines at most: " + methods.group().split("\n")[0].trim(), Math.max(lines, 60), 60);
        }
        due("methods were found", Math.min(seen, FACE.length), FACE.length);
    }
}
