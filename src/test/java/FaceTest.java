import java.io.IOException;
import java.lang.reflect.Field;
import java.lang.reflect.Member;
import java.lang.reflect.Method;
import java.lang.reflect.Modifier;
import java.nio.file.Files;
import java.nio.file.Path;
import java.util.ArrayList;
import java.util.List;
import java.util.Set;
import java.util.TreeSet;
import java.util.regex.Pattern;

/** The public face of the document, and what ../shared/LANGUAGE.md forbids that can be seen by words. */
public final class FaceTest {
    private static final String FACE = "agree() ask() boughtFor() change(2) clash() cut(3) cutting(1) drift(1) fault() feed(1) "
        + "gain(1) goBack(1) honest(2) judge() keep(1) kept(2) leastDues() left(3) most(4) piece(2) remnants() seed(1) shop() "
        + "slips() table(2) tear() told(1) turn(2) undo() wanted(2) write(2) yard(1)";
    /** As patterns, comments and texts left out: what the rules name, lambdas and method references among it. */
    private static final String[] FORBIDDEN = {"\\bthrows?\\b", "\\btry\\b", "\\bcatch\\b", "\\bsynchronized\\b", "\\bassert\\b",
        "\\bpackage\\b", "\\bprotected\\b", "::", "\\bhashCode\\b", "Exact\\(", "\\bThread\\b", "\\bRandom\\b", "\\bNaN\\b",
        "\\bSystem\\.(?!arraycopy\\b)", "\\bjava\\.(?!util\\.(ArrayList|List|Iterator|Arrays)\\b)", "while \\(true\\)", "for \\(; *;",
        "(?m)^(?!\\s*(case|default)\\b).*->"};

    public static void main(String[] args) throws IOException {
        methods();
        fields();
        constants();
        words();
        shapes();
        lines();
        Due.end();
    }

    private static void methods() {
        Set<String> open = new TreeSet<>();
        Set<String> names = new TreeSet<>();
        for (Method method : WhateverYard.class.getDeclaredMethods()) {
            if (method.isSynthetic() || Modifier.isPrivate(method.getModifiers())) continue;
            int taken = method.getParameterCount();
            open.add(method.getName() + "(" + (taken == 0 ? "" : taken) + ")");
            names.add(method.getName());
            Due.due(method + " is public and answers an int", isOpenInt(method) ? 1 : 0, 1);
        }
        String all = String.join(" ", open);
        Due.due("the methods: " + all, all.equals(FACE) ? 1 : 0, 1);
        for (Method method : WhateverYard.class.getDeclaredMethods()) {
            boolean hides = Modifier.isPrivate(method.getModifiers()) && names.contains(method.getName());
            Due.due(method + " hides a public one", hides ? 1 : 0, 0);
        }
        Due.due("public constructors", WhateverYard.class.getConstructors().length, 1);
        Due.due("final", Modifier.isFinal(WhateverYard.class.getModifiers()) ? 1 : 0, 1);
    }

    private static boolean isOpenInt(Method method) {
        return Modifier.isPublic(method.getModifiers()) && !Modifier.isStatic(method.getModifiers())
            && method.getReturnType() == int.class;
    }

    private static void fields() {
        Set<String> open = new TreeSet<>();
        for (Field field : WhateverYard.class.getDeclaredFields()) {
            if (!Modifier.isPrivate(field.getModifiers())) open.add(field.getName());
            if (isOpen(field)) Due.due(field + " is a constant", Modifier.isFinal(field.getModifiers()) ? 1 : 0, 1);
        }
        Due.due("the constants: " + open, open.toString().equals("[FULL, NONE, NOT, OUTSIDE, UNKNOWN]") ? 1 : 0, 1);
        for (Class<?> inside : WhateverYard.class.getDeclaredClasses()) {
            Due.due(inside + " is static", Modifier.isStatic(inside.getModifiers()) ? 1 : 0, 1);
            Due.due(inside + " is not public", Modifier.isPublic(inside.getModifiers()) ? 1 : 0, 0);
        }
    }

    private static boolean isOpen(Member member) {
        return !Modifier.isPrivate(member.getModifiers());
    }

    private static void constants() {
        Due.due("NONE", WhateverYard.NONE, -1);
        Due.due("UNKNOWN", WhateverYard.UNKNOWN, -1000000001);
        Due.due("OUTSIDE", WhateverYard.OUTSIDE, -1000000002);
        Due.due("NOT", WhateverYard.NOT, -1000000003);
        Due.due("FULL", WhateverYard.FULL, -1000000004);
    }

    private static void words() throws IOException {
        String source = Files.readString(Path.of("src/main/java/WhateverYard.java"));
        String code = source.replaceAll("(?s)/\\*.*?\\*/|//[^\\n]*", " ").replaceAll("\"[^\"\\n]*\"", "TEXT");
        for (String word : FORBIDDEN) {
            Due.due("the source has '" + word + "'", Pattern.compile(word).matcher(code).find() ? 1 : 0, 0);
        }
        for (int i = 0; i < source.length(); i++) {
            if (source.charAt(i) > 126) Due.due("letter " + i + " of the source", source.charAt(i), 126);
        }
    }

    /** Rules 1, 5 and 11: what the classes are made of. */
    private static void shapes() {
        List<Class<?>> classes = new ArrayList<>(List.of(WhateverYard.class.getDeclaredClasses()));
        classes.add(WhateverYard.class);
        Due.due(classes.size() + " classes are at most twelve", classes.size() <= 12 ? 1 : 0, 1);
        for (Class<?> one : classes) {
            int own = 0;
            for (Field field : one.getDeclaredFields()) {
                boolean fixed = Modifier.isStatic(field.getModifiers());
                if (!fixed) own++;
                else Due.due(field + " is final", Modifier.isFinal(field.getModifiers()) ? 1 : 0, 1);
            }
            Due.due(one + " has at most twenty fields", own <= 20 ? 1 : 0, 1);
            for (Method method : one.getDeclaredMethods()) {
                if (method.isSynthetic()) continue;
                Due.due(method + " takes at most seven", method.getParameterCount() <= 7 ? 1 : 0, 1);
                boolean like = one != WhateverYard.class && FACE.matches("(.* )?" + method.getName() + "\\(.*");
                Due.due(method + " bears the name of a public one", like ? 1 : 0, 0);
            }
        }
    }

    /** Rules 11 and 12: methods are short, and nothing is made but with the object itself. */
    private static void lines() throws IOException {
        List<String> source = Files.readAllLines(Path.of("src/main/java/WhateverYard.java"));
        int methods = 0;
        for (int i = 0; i < source.size(); i++) {
            String line = source.get(i);
            boolean makes = line.matches(".*\\bnew \\w.*") && !line.matches(" *(/?\\*|//).*");
            boolean within = line.matches(" {4,8}(private )?(final )?\\w+ \\w+ = new \\w+\\(.*\\);|            cells = new int\\[.*");
            Due.due("line " + (i + 1) + " makes something in a call", makes && !within ? 1 : 0, 0);
            if (!line.matches(" {4,8}\\w.*\\) \\{") || line.matches(" *(if|for|while|switch|else)\\b.*")) continue;
            String end = line.replaceAll("\\S.*", "") + "}";
            int last = i;
            while (last < source.size() && !source.get(last).equals(end)) last++;
            Due.due("lines of " + line.trim() + " are at most sixty", last - i <= 60 ? 1 : 0, 1);
            methods++;
        }
        Due.due("methods were found", methods > 100 ? 1 : 0, 1);
    }
}
