import java.util.ArrayList;
import java.util.Arrays;
import java.util.List;
import java.util.regex.Matcher;
import java.util.regex.Pattern;

/**
 * Plays runs of calls on new objects, told as rows of text, as in "implement(4, 2) = 1" (behind // stands why).
 * A row with 0..3 in it stands for one row with each of these numbers, one with FAR for one with each number far
 * out of every range. After each call that is refused, and each that only asks, all questions that a world can be
 * asked are asked, to see that nothing has changed by it.
 */
final class Runs {
    // Beside the ends of int: numbers that a shift, a cast or a row of slots might take for one in range.
    private static final int[] FAR = {Integer.MIN_VALUE, Integer.MIN_VALUE + 1, Integer.MIN_VALUE + 4, -65535, -255,
        -64, -33, -32, -31, -13, -8, -4, 14, 16, 32, 33, 36, 64, 65, 256, 257, 65536, 65537, 1 << 30, (1 << 30) + 1,
        Integer.MAX_VALUE - 1, Integer.MAX_VALUE};
    private static final Pattern RANGE = Pattern.compile("(\\d+)\\.\\.(\\d+)");
    private static final int MOST_CALLS = 512;

    private final Due due;

    Runs(String test) {
        due = new Due(test);
    }

    void end() {
        due.end();
    }

    /** Rows that tell the interfaces from .. to: public ones of the package 0. */
    static String interfaces(int from, int to) {
        StringBuilder rows = new StringBuilder();
        for (int type = from; type <= to; type++) {
            rows.append("tellInterface(0, true) = ").append(type).append('\n');
        }
        return rows.toString();
    }

    /** Rows that tell the classes from .. to: public ones of the package 0 with no superclass. */
    static String classes(int from, int to) {
        StringBuilder rows = new StringBuilder();
        for (int type = from; type <= to; type++) {
            rows.append("tellClass(0, 0, true, false) = ").append(type).append('\n');
        }
        return rows.toString();
    }

    /** Likewise, but each with the one before it as its superclass. */
    static String chain(int from, int to) {
        StringBuilder rows = new StringBuilder(classes(from, from));
        for (int type = from + 1; type <= to; type++) {
            rows.append("tellClass(").append(type - 1).append(", 0, true, false) = ").append(type).append('\n');
        }
        return rows.toString();
    }

    void run(String title, String text) {
        MemberOracle x = new MemberOracle();
        List<Call> changing = new ArrayList<>();
        int[] before = null;
        int types = 0;
        int calls = 0;
        for (String row : rows(text)) {
            int cut = row.lastIndexOf(" = ");
            Call call = Call.of(row.substring(0, cut));
            int want = answer(row.substring(cut + 3).trim());
            due.is(title + ": " + call, call.on(x), want);
            calls++;
            if (call.mayChange(want)) {
                changing.add(call);
                types += call.tellsType() ? 1 : 0;
                before = null;
            } else {
                before = before == null ? Questions.of(types).answers(changing) : before;
                changesNothing(title, types, changing, call, before);
            }
        }
        due.is(title + ": at most 512 calls on the object", calls <= MOST_CALLS, true);
    }

    private void changesNothing(String title, int types, List<Call> changing, Call call, int[] before) {
        List<Call> all = new ArrayList<>(changing);
        all.add(call);
        int[] after = Questions.of(types).answers(all);
        int at = Arrays.mismatch(before, after);
        if (at < 0) {
            due.is(title + ": nothing changes by " + call, true, true);
        } else {
            due.is(title + ": after " + call + " " + Questions.of(types).at(at), after[at], before[at]);
        }
    }

    private static List<String> rows(String text) {
        List<String> rows = new ArrayList<>();
        for (String line : text.split("\n")) {
            int comment = line.indexOf("//");
            String row = (comment < 0 ? line : line.substring(0, comment)).trim();
            if (!row.isEmpty()) {
                addEach(row, rows);
            }
        }
        return rows;
    }

    private static void addEach(String row, List<String> rows) {
        Matcher range = RANGE.matcher(row);
        if (row.contains("FAR")) {
            for (int far : FAR) {
                addEach(row.replace("FAR", String.valueOf(far)), rows);
            }
        } else if (range.find()) {
            int last = Integer.parseInt(range.group(2));
            for (int n = Integer.parseInt(range.group(1)); n <= last; n++) {
                addEach(row.substring(0, range.start()) + n + row.substring(range.end()), rows);
            }
        } else {
            rows.add(row);
        }
    }

    private static int answer(String text) {
        switch (text) {
            case "true": return 1;
            case "false": return 0;
            case "REFUSED": return Model.REFUSED;
            case "FULL": return Model.FULL;
            case "NO_FIELD": return Model.NO_FIELD;
            case "NO_METHOD": return Model.NO_METHOD;
            case "ACCESS": return Model.ACCESS;
            case "CHANGE": return Model.CHANGE;
            case "ABSTRACT": return Model.ABSTRACT;
            default: return Integer.parseInt(text);
        }
    }
}
