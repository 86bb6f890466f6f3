import java.util.Map;

/** A call of the face told as text, as in "implement(4, 2)"; a boolean is 1 or 0, as an answer too. */
final class Call {
    private static final Map<String, Integer> NUMBERS = Map.ofEntries(Map.entry("tellClass", 4),
        Map.entry("tellInterface", 2), Map.entry("implement", 2), Map.entry("nest", 2), Map.entry("field", 4),
        Map.entry("method", 4), Map.entry("untell", 3), Map.entry("resolve", 4), Map.entry("choices", 0),
        Map.entry("use", 4), Map.entry("invoke", 5), Map.entry("isA", 2), Map.entry("mates", 2),
        Map.entry("overrides", 3), Map.entry("maximal", 2), Map.entry("type", 2));

    private final String name;
    private final int[] a;

    Call(String name, int... numbers) {
        this.name = name;
        a = numbers;
        if (!NUMBERS.containsKey(name) || NUMBERS.get(name) != numbers.length) {
            throw new IllegalArgumentException("no call of the face: " + this);
        }
    }

    static Call of(String text) {
        String inside = text.substring(text.indexOf('(') + 1, text.lastIndexOf(')')).trim();
        String[] parts = inside.isEmpty() ? new String[0] : inside.split(", *");
        int[] numbers = new int[parts.length];
        for (int i = 0; i < parts.length; i++) {
            numbers[i] = parts[i].equals("true") ? 1 : parts[i].equals("false") ? 0 : Integer.parseInt(parts[i]);
        }
        return new Call(text.substring(0, text.indexOf('(')).trim(), numbers);
    }

    int on(MemberOracle x) {
        switch (name) {
            case "tellClass": return x.tellClass(a[0], a[1], a[2] != 0, a[3] != 0);
            case "tellInterface": return x.tellInterface(a[0], a[1] != 0);
            case "implement": return x.implement(a[0], a[1]);
            case "nest": return x.nest(a[0], a[1]);
            case "field": return x.field(a[0], a[1], a[2], a[3] != 0);
            case "method": return x.method(a[0], a[1], a[2], a[3]);
            case "untell": return x.untell(a[0], a[1], a[2]);
            case "resolve": return x.resolve(a[0], a[1], a[2], a[3]);
            case "choices": return x.choices();
            case "use": return x.use(a[0], a[1], a[2], a[3] != 0);
            case "invoke": return x.invoke(a[0], a[1], a[2], a[3], a[4]);
            case "isA": return x.isA(a[0], a[1]) ? 1 : 0;
            case "mates": return x.mates(a[0], a[1]) ? 1 : 0;
            case "overrides": return x.overrides(a[0], a[1], a[2]) ? 1 : 0;
            case "maximal": return x.maximal(a[0], a[1]);
            default: return x.type(a[0], a[1]);
        }
    }

    boolean tellsType() {
        return name.equals("tellClass") || name.equals("tellInterface");
    }

    /** Whether a call with this answer may change something; CHOICES are all that resolve and invoke change. */
    boolean mayChange(int answer) {
        switch (name) {
            case "resolve":
            case "invoke":
                return answer != Model.REFUSED;
            case "implement":
            case "nest":
            case "field":
            case "method":
            case "untell":
                return answer >= 0;
            default:
                return tellsType() && answer >= 0;
        }
    }

    @Override
    public String toString() {
        StringBuilder text = new StringBuilder(name).append('(');
        for (int i = 0; i < a.length; i++) {
            text.append(i == 0 ? "" : ", ").append(a[i]);
        }
        return text.append(')').toString();
    }
}
