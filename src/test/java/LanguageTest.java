import java.io.IOException;
import java.lang.reflect.Field;
import java.lang.reflect.Method;
import java.lang.reflect.Modifier;
import java.nio.file.Files;
import java.nio.file.Path;
import java.util.ArrayDeque;
import java.util.Deque;
import java.util.Map;
import java.util.Set;
import java.util.TreeMap;
import java.util.TreeSet;
import java.util.regex.Matcher;
import java.util.regex.Pattern;

/** What of LANGUAGE.md can be looked up: the face, words that must not stand, methods' lengths. */
public final class LanguageTest {
    private static final String FACE = "long digest() int letter(int) int blank() int fault() int drawer() "
        + "int single(int,int) int as(int,int) int likeness(int,int) int apart(int,int) int carry(int,int) "
        + "int bring(int,int) int part(int) int shrink(int,int) int may() int most(int) int best(int,int) "
        + "int stable(int) int happy(int) int round(int) int odds(int) int see(int,int,int) int forget() "
        + "int winters(int,int,int) int image() int restore() int count(int)";
    private static final String[] FORBIDDEN = {
        "\\bthrow\\b", "\\btry\\b", "\\bcatch\\b", "\\bsynchronized\\b", "\\bassert\\b", "->", "::", "@",
        "\\bstatic\\s*\\{", "\\bprotected\\b", "\\bnull\\b", "\\bwhile\\s*\\(\\s*true\\b", "Exact\\b",
        "\\bSystem\\.(?!arraycopy)", "\\bMath\\.(?!abs|min|max)", "\\bArrays\\.(?!fill)",
        "\\bInteger\\.(?!bitCount)", "\\bjava\\.(?!util\\.Arrays;)", "\\b(equals|hashCode|toString)\\b"};

    /** A method's head stands four or eight blanks in; its end is the "}" as far in. */
    private static final Pattern METHOD =
        Pattern.compile("(?m)^( {4}| {8})(?! )[^\n;=(]*?(\\w+)\\([^\n;=]*\\) \\{\n((?s:.*?)\n)??\\1\\}");
    private static final Pattern CALL = Pattern.compile("\\b(?!(?:if|for|while|switch|return)\\b)(\\w+)\\(");

    public static void main(String[] args) throws IOException {
        String source = Files.readString(Path.of("src/main/java/GloveSaint.java"));
        String code = source.replaceAll("(?s)/\\*.*?\\*/", "").replaceAll("//[^\n]*", "")
            .replaceAll("\"[^\"\n]*\"", "\"\"");
        for (String word : FORBIDDEN) {
            Matcher at = Pattern.compile(word).matcher(code);
            Check.due("places of " + word, at.results().count(), 0);
        }
        face();
        classesInside();
        Check.due("methods over sixty lines", longMethods(code), 0);
        callsStandNotTooDeep(code);
        Check.end("LanguageTest");
    }

    private static void face() {
        Set<String> due = new TreeSet<>(Set.of(FACE.split("(?<=\\)) ")));
        Set<String> names = new TreeSet<>();
        for (Method method : GloveSaint.class.getDeclaredMethods()) {
            if (Modifier.isPublic(method.getModifiers())) {
                StringBuilder takes = new StringBuilder();
                for (Class<?> type : method.getParameterTypes()) {
                    takes.append(takes.length() == 0 ? "" : ",").append(type);
                }
                String told = method.getReturnType() + " " + method.getName() + "(" + takes + ")";
                Check.due("in the face: " + told, due.remove(told) ? 1 : 0, 1);
                names.add(method.getName());
            }
        }
        Check.due("missing in the face: " + due, due.size(), 0);
        for (Method method : GloveSaint.class.getDeclaredMethods()) {
            boolean open = Modifier.isPublic(method.getModifiers());
            Check.due("hidden: " + method, open || Modifier.isPrivate(method.getModifiers()) ? 1 : 0, 1);
            Check.due("name of a public one: " + method, !open && names.contains(method.getName()) ? 1 : 0, 0);
        }
        int constants = 0;
        for (Field field : GloveSaint.class.getDeclaredFields()) {
            constants += Modifier.isPublic(field.getModifiers()) ? 1 : 0;
            Check.due("package-visible: " + field,
                Modifier.isPublic(field.getModifiers()) || Modifier.isPrivate(field.getModifiers()) ? 0 : 1, 0);
        }
        Check.due("public constants", constants, 5);
        Check.due("public constructors", GloveSaint.class.getConstructors().length, 1);
        Check.due("constructors", GloveSaint.class.getDeclaredConstructors().length, 1);
        Check.due("final", Modifier.isFinal(GloveSaint.class.getModifiers()) ? 1 : 0, 1);
    }

    private static void classesInside() {
        Class<?>[] inside = GloveSaint.class.getDeclaredClasses();
        Check.due("more than twelve classes", inside.length + 1 > 12 ? 1 : 0, 0);
        for (Class<?> each : inside) {
            for (Method method : each.getDeclaredMethods()) {
                Check.due("over seven parameters: " + method, method.getParameterCount() > 7 ? 1 : 0, 0);
            }
            Check.due("static: " + each, Modifier.isStatic(each.getModifiers()) ? 1 : 0, 1);
            int fields = 0;
            for (Field field : each.getDeclaredFields()) {
                boolean constant = Modifier.isStatic(field.getModifiers());
                fields += constant ? 0 : 1;
                Check.due("final: " + field, !constant || Modifier.isFinal(field.getModifiers()) ? 1 : 0, 1);
            }
            Check.due("over twenty fields: " + each, fields > 20 ? 1 : 0, 0);
        }
    }

    private static long longMethods(String code) {
        return METHOD.matcher(code).results().filter(found -> found.group().lines().count() > 60).count();
    }

    /** By names alone, so that a call of an overridden method is the deepest of those it can be. */
    private static void callsStandNotTooDeep(String code) {
        Map<String, Set<String>> calls = new TreeMap<>();
        Matcher method = METHOD.matcher(code);
        while (method.find()) {
            Set<String> called = calls.computeIfAbsent(method.group(2), name -> new TreeSet<>());
            Matcher call = CALL.matcher(method.group(3) == null ? "" : method.group(3));
            while (call.find()) {
                called.add(call.group(1));
            }
        }
        for (Method each : GloveSaint.class.getDeclaredMethods()) {
            Check.due("found: " + each.getName(), calls.containsKey(each.getName()) ? 1 : 0, 1);
            int depth = depth(calls, each.getName(), new ArrayDeque<>());
            Check.due(each.getName() + " goes over eight deep, " + depth, depth > 8 ? 1 : 0, 0);
        }
    }

    private static int depth(Map<String, Set<String>> calls, String name, Deque<String> open) {
        int deepest = 0;
        open.push(name);
        for (String called : calls.getOrDefault(name, Set.of())) {
            if (!open.contains(called)) {
                deepest = Math.max(deepest, depth(calls, called, open));
            }
        }
        open.pop();
        return deepest + 1;
    }
}
