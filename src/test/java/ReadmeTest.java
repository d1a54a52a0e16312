import java.io.IOException;
import java.lang.reflect.Method;
import java.nio.file.Files;
import java.nio.file.Path;
import java.util.ArrayList;
import java.util.Arrays;
import java.util.List;
import java.util.regex.Matcher;
import java.util.regex.Pattern;

/** That README.md says what is so: its example, its faults, its numbers, its bounds, the refusals that the document names. */
public final class ReadmeTest {
    private static final String ROOMY = "d0;u1;u2;t0 1 1 1;p0 40;n0 1;";
    private static final String REFUSALS = "UNKNOWN|OUTSIDE|NOT|FULL";

    public static void main(String[] args) throws Exception {
        String readme = Files.readString(Path.of("README.md"));
        example(readme);
        faults(readme);
        numbers(readme);
        calls(readme, Files.readString(Path.of("../shared/DOC.md")));
        tests(readme);
        Due.end();
    }

    /** Each line of the example that ends in a number answers it. */
    private static void example(String readme) throws Exception {
        Matcher text = Pattern.compile("String text = \"([^\"]*)\"").matcher(readme);
        Due.due("an example with a text", text.find() ? 1 : 0, 1);
        WhateverYard yard = new WhateverYard();
        Due.feed(yard, text.group(1));
        Matcher line = Pattern.compile("(?m)^yard\\.(\\w+)\\(([^)]*)\\);\\s*// (-?\\d+)").matcher(readme);
        int lines = 0;
        while (line.find()) {
            List<Integer> given = new ArrayList<>();
            for (String one : line.group(2).split(",")) if (!one.isBlank()) given.add(Integer.parseInt(one.trim()));
            Due.due("example: " + line.group(), answer(yard, line.group(1), given), Integer.parseInt(line.group(3)));
            lines++;
        }
        Due.due("lines of the example", lines, 7);
    }

    /** A row each: number, what it is, a text, the place. */
    private static void faults(String readme) {
        Matcher row = Pattern.compile("(?m)^\\| (\\d) \\|[^|\\n]*\\| `([^`]*)` \\| (\\d+) \\|$").matcher(readme);
        int seen = 0;
        while (row.find()) {
            WhateverYard yard = new WhateverYard();
            Due.feed(yard, row.group(2));
            Due.due("shop() of '" + row.group(2) + "'", yard.shop(), -10 - Integer.parseInt(row.group(1)));
            Due.due("fault() of '" + row.group(2) + "'", yard.fault(), Integer.parseInt(row.group(3)));
            seen |= 1 << Integer.parseInt(row.group(1));
        }
        Due.due("the faults that the page shows", seen, 0b11110);
    }

    private static void numbers(String readme) throws Exception {
        Matcher row = Pattern.compile("(?m)^\\| `(" + REFUSALS + ")` \\| (-\\d+) \\|").matcher(readme);
        int rows = 0;
        while (row.find()) {
            Due.due(row.group(1), WhateverYard.class.getField(row.group(1)).getInt(null), Integer.parseInt(row.group(2)));
            rows++;
        }
        Due.due("refusals with their numbers", rows, 4);
    }

    /** A row each, in the order of the document: the call, what it answers, bounds, refusals. */
    private static void calls(String readme, String document) throws Exception {
        Matcher promise = Pattern.compile("(?m)^`int (\\w+)\\(([^)]*)\\)`: (.*)$").matcher(document);
        Matcher row = Pattern.compile("(?m)^\\| `(\\w+)\\(([^)]*)\\)` \\|[^|\\n]*\\|([^|\\n]*)\\|([^|\\n]*)\\|$").matcher(readme);
        int rows = 0;
        while (promise.find() && row.find()) {
            String name = promise.group(1);
            Due.due("the row of " + name + " is that of " + row.group(1), row.group(1).equals(name) ? 1 : 0, 1);
            boolean alike = row.group(2).equals(promise.group(2).replace("int ", ""));
            Due.due("what " + name + " takes: " + row.group(2), alike ? 1 : 0, 1);
            String refused = refusals(row.group(4), "`(" + REFUSALS + ")`");
            String due = refusals(promise.group(3), "\\b(" + REFUSALS + ")\\b");
            Due.due(name + " is refused by " + refused + "due: " + due, refused.equals(due) ? 1 : 0, 1);
            int bounds = bounds(name, row.group(2).split(", "), row.group(3));
            Due.due(name + " has bounds", bounds > 0 ? 1 : 0, due.contains("OUTSIDE") ? 1 : 0);
            rows++;
        }
        Due.due("rows of calls", rows, 32);
    }

    private static String refusals(String text, String pattern) {
        StringBuilder words = new StringBuilder();
        Matcher word = Pattern.compile(pattern).matcher(text);
        while (word.find()) words.append(word.group(1)).append(' ');
        return words.toString();
    }

    /** How many bounds the row has; at each the last number is taken and the next is OUTSIDE. */
    private static int bounds(String name, String[] takes, String text) throws Exception {
        Matcher bound = Pattern.compile("`(\\w+)` (\\d+) \\.\\. (\\d+)").matcher(text);
        int bounds = 0;
        while (bound.find()) {
            bounds++;
            int at = List.of(takes).indexOf(bound.group(1));
            Due.due("'" + bound.group(1) + "' is given to " + name, at >= 0 ? 1 : 0, 1);
            int low = Integer.parseInt(bound.group(2));
            int high = Integer.parseInt(bound.group(3));
            outside(name, takes, at, low - 1, true);
            outside(name, takes, at, low, false);
            outside(name, takes, at, high, false);
            if (high != Integer.MAX_VALUE) outside(name, takes, at, high + 1, true);
        }
        return bounds;
    }

    private static void outside(String name, String[] takes, int at, int number, boolean due) throws Exception {
        List<Integer> given = new ArrayList<>();
        for (String one : takes) given.add(one.equals("n") && !name.equals("wanted") ? 1 : 0);
        given.set(at, number);
        long got = answer(Due.open(ROOMY), name, given);
        Due.due(name + given + " is OUTSIDE", got == Due.OUTSIDE ? 1 : 0, due ? 1 : 0);
    }

    private static int answer(WhateverYard yard, String name, List<Integer> given) throws Exception {
        Class<?>[] kinds = new Class<?>[given.size()];
        Arrays.fill(kinds, int.class);
        Method call = WhateverYard.class.getMethod(name, kinds);
        return (int) call.invoke(yard, given.toArray());
    }

    /** Every test of the project has a row, and every row is one. */
    private static void tests(String readme) throws IOException {
        List<String> files = new ArrayList<>();
        try (var paths = Files.list(Path.of("src/test/java"))) {
            paths.map(path -> path.getFileName().toString().replace(".java", "")).forEach(files::add);
        }
        for (String file : files) Due.due(file + " is on the page", readme.contains("`" + file + "`") ? 1 : 0, 1);
        Matcher row = Pattern.compile("(?m)^\\| `(\\w+Test)` \\|").matcher(readme);
        while (row.find()) Due.due(row.group(1) + " is a file", files.contains(row.group(1)) ? 1 : 0, 1);
    }
}
