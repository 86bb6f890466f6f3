import java.util.ArrayList;
import java.util.List;

/**
 * All that can be asked of a world of so many types. An object is good for 512 calls, so the questions stand in
 * rows, each for an object of its own. The last rows ask by telling: what they answer shows what nothing else
 * does, as which classes are FINAL.
 */
final class Questions {
    private static final int MOST_CALLS = 512;
    private static final int ROW = 300;
    private static final Questions[] BY_TYPES = new Questions[13];

    private final List<List<Call>> rows = new ArrayList<>();
    private final int types;
    private int count = 0;

    private Questions(int types) {
        this.types = types;
        ofTypes();
        ofMembers();
        newRow();
        for (int type = 0; type <= types + 1; type++) {
            add("tellClass", type, 0, 1, 0);
        }
        newRow();
        for (int type = types; type >= 1; type--) {
            for (int other = types; other >= 1; other--) {
                add("implement", type, other);
            }
        }
        newRow();
        for (int type = types; type >= 1; type--) {
            for (int other = types; other >= 1; other--) {
                add("nest", type, other);
            }
        }
        newRow();
        for (int type = 1; type <= types; type++) {
            for (int name = 0; name <= 3; name++) {
                add("untell", type, 0, name);
                add("untell", type, 1, name);
            }
        }
    }

    static Questions of(int types) {
        if (BY_TYPES[types] == null) {
            BY_TYPES[types] = new Questions(types);
        }
        return BY_TYPES[types];
    }

    private void newRow() {
        rows.add(new ArrayList<>());
        add("choices");
    }

    private void add(String name, int... numbers) {
        if (rows.isEmpty() || rows.get(rows.size() - 1).size() == ROW) {
            newRow();
        }
        rows.get(rows.size() - 1).add(new Call(name, numbers));
        count++;
    }

    /** One number to either side too: a refused call might have told one type more. */
    private void ofTypes() {
        for (int type = 0; type <= types + 1; type++) {
            for (int what = 0; what <= 9; what++) {
                add("type", type, what);
            }
            for (int other = 0; other <= types + 1; other++) {
                add("isA", type, other);
                add("mates", type, other);
            }
        }
    }

    private void ofMembers() {
        for (int name = 0; name <= 3; name++) {
            for (int type = 1; type <= types; type++) {
                add("maximal", type, name);
                for (int other = 1; other <= types; other++) {
                    add("overrides", type, other, name);
                    ofReference(type, other, name);
                }
            }
        }
    }

    private void ofReference(int type, int from, int name) {
        for (int kind = 0; kind <= 2; kind++) {
            add("resolve", kind, from, type, name);
        }
        add("use", from, type, name, 0);
        add("use", from, type, name, 1);
        for (int kind = 0; kind <= 1; kind++) {
            for (int receiver = 1; receiver <= types; receiver++) {
                add("invoke", kind, type, from, name, receiver);
            }
        }
        add("invoke", 2, type, from, name, 0);
        add("invoke", 3, type, from, name, 0);
    }

    /** What a world made by the calls answers. */
    int[] answers(List<Call> calls) {
        if (calls.size() + ROW > MOST_CALLS) {
            throw new IllegalStateException("too many calls for one object");
        }
        int[] answers = new int[count];
        int n = 0;
        for (List<Call> row : rows) {
            MemberOracle x = new MemberOracle();
            for (Call call : calls) {
                call.on(x);
            }
            for (Call question : row) {
                answers[n] = question.on(x);
                n++;
            }
        }
        return answers;
    }

    /** The question whose answer stands at the index. */
    Call at(int index) {
        int left = index;
        for (List<Call> row : rows) {
            if (left < row.size()) {
                return row.get(left);
            }
            left -= row.size();
        }
        throw new IndexOutOfBoundsException(index);
    }
}
