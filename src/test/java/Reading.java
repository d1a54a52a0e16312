import java.util.ArrayList;
import java.util.List;
import java.util.regex.Matcher;
import java.util.regex.Pattern;

/** A text read in another way than the class reads it: into words and NUMBERS first, each against what is due there. */
final class Reading {
    /** The number of the FAULT and its place; 0 and NONE without one. */
    int fault = 0, place = Due.NONE;
    boolean open = false;
    int dues = 0;
    /** The NUMBERS of each clause but the first, in the order of "utpn". */
    final List<List<int[]>> told = List.of(new ArrayList<>(), new ArrayList<>(), new ArrayList<>(), new ArrayList<>());
    private static final String WORDS = "utpn";
    private static final int[] MOST = {6, 8, 6, 6};
    private static final String[] NUMBERS = {"Y", "ABUU", "AP", "AN"};

    Reading(String text) {
        Matcher tokens = Pattern.compile("[0-9]+|[^ ]", Pattern.DOTALL).matcher(text);
        String due = "w";
        int kind = -1;
        List<Integer> numbers = new ArrayList<>();
        while (tokens.find() && fault == 0) {
            String token = tokens.group();
            char slot = due.charAt(0);
            blame(slot == 'w' ? word(token) : slot == ';' ? (token.equals(";") ? 0 : 1) : number(token, slot, numbers), tokens.start());
            if (fault != 0) return;
            due = due.substring(1);
            if (slot == 'w') {
                kind = WORDS.indexOf(token);
                due = (kind < 0 ? "D" : NUMBERS[kind]) + ";";
                numbers.clear();
            } else if (slot == ';') {
                tell(kind, numbers);
                due = "w";
            } else {
                numbers.add(Integer.parseInt(token));
            }
        }
        if (fault == 0 && !due.equals("w")) blame(1, text.length());
    }

    private void blame(int number, int at) {
        if (number == 0) return;
        fault = number;
        place = at;
    }

    private int word(String token) {
        int kind = WORDS.indexOf(token);
        if (token.equals("d")) return open ? 3 : 0;
        if (kind < 0 || !open) return 1;
        return told.get(kind).size() == MOST[kind] ? 3 : 0;
    }

    private int number(String token, char slot, List<Integer> ahead) {
        if (token.charAt(0) < '0' || token.charAt(0) > '9') return 1;
        if (token.length() > 3) return 2;
        int value = Integer.parseInt(token);
        int low = slot == 'D' || slot == 'A' || slot == 'B' ? 0 : 1;
        int high = slot == 'D' || slot == 'Y' ? 99 : slot == 'U' || slot == 'N' ? 20 : slot == 'P' ? 40 : told.get(0).size() - 1;
        if (value < low || value > high) return 2;
        return slot == 'B' && (value == ahead.get(0) || has(ahead.get(0), value)) ? 4 : 0;
    }

    private boolean has(int a, int b) {
        for (int[] table : told.get(1)) if (table[0] == a && table[1] == b) return true;
        return false;
    }

    private void tell(int kind, List<Integer> numbers) {
        open = true;
        if (kind < 0) dues = numbers.get(0);
        else told.get(kind).add(numbers.stream().mapToInt(Integer::intValue).toArray());
    }

    int[][] clauses(char word) {
        return told.get(WORDS.indexOf(word)).toArray(new int[0][]);
    }
}
