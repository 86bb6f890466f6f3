/** Whatever the numbers, no call throws, and one with a number out of range is refused and changes nothing. */
public final class WildTest {
    private static final int[] WILD = {Integer.MIN_VALUE, Integer.MIN_VALUE + 1, -33, -32, -1, 13, 14, 31, 32, 33, 64,
        65, 1 << 30, Integer.MAX_VALUE - 1, Integer.MAX_VALUE};
    private static final int REFUSED = MemberOracle.REFUSED;
    private static final Due due = new Due("WildTest");

    public static void main(String[] args) {
        for (int n : WILD) {
            wildAnswers(world(), n);
            wildChangesNothing(n);
        }
        wildOnEmpty();
        due.end();
    }

    /** Twelve types, each IS A all before it as far as may be, with members of every name. */
    private static MemberOracle world() {
        MemberOracle x = new MemberOracle();
        for (int t = 1; t <= 12; t++) {
            if (t <= 6) {
                x.tellInterface(0, true);
            } else {
                x.tellClass(t == 7 ? 0 : t - 1, t % 3, true, false);
            }
            for (int i = 1; i <= 4; i++) {
                x.implement(t, t - i);
            }
            x.method(t, t % 4, 3, t % 3);
            x.field(t, t % 4, 3, true);
        }
        return x;
    }

    private static void wildAnswers(MemberOracle x, int n) {
        due.is("tellClass " + n, x.tellClass(n, 0, true, false), REFUSED);
        due.is("tellClass in " + n, x.tellClass(0, n, true, false), REFUSED);
        due.is("tellInterface in " + n, x.tellInterface(n, true), REFUSED);
        due.is("implement " + n, x.implement(n, 1), REFUSED);
        due.is("implement by " + n, x.implement(12, n), REFUSED);
        due.is("nest " + n, x.nest(n, 1), REFUSED);
        due.is("nest in " + n, x.nest(12, n), REFUSED);
        due.is("nest both " + n, x.nest(n, n), REFUSED);
        due.is("field type " + n, x.field(n, 0, 3, true), REFUSED);
        due.is("field name " + n, x.field(12, n, 3, true), REFUSED);
        due.is("field access " + n, x.field(12, 0, n, true), REFUSED);
        due.is("method type " + n, x.method(n, 0, 3, 0), REFUSED);
        due.is("method name " + n, x.method(12, n, 3, 0), REFUSED);
        due.is("method access " + n, x.method(12, 0, n, 0), REFUSED);
        due.is("method form " + n, x.method(12, 0, 3, n), REFUSED);
        due.is("untell type " + n, x.untell(n, 0, 0), REFUSED);
        due.is("untell kind " + n, x.untell(12, n, 0), REFUSED);
        due.is("untell name " + n, x.untell(12, 0, n), REFUSED);
        due.is("isA " + n, x.isA(n, 1) || x.isA(12, n) || x.isA(n, n), false);
        due.is("mates " + n, x.mates(n, 1) || x.mates(12, n) || x.mates(n, n), false);
        due.is("overrides " + n, x.overrides(n, 1, 0) || x.overrides(12, n, 0) || x.overrides(12, 12, n), false);
        due.is("maximal type " + n, x.maximal(n, 0), REFUSED);
        due.is("maximal name " + n, x.maximal(12, n), REFUSED);
        due.is("type " + n, x.type(n, 0), REFUSED);
        due.is("type what " + n, x.type(12, n), REFUSED);
        due.is("use from " + n, x.use(n, 12, 0, true), REFUSED);
        due.is("use type " + n, x.use(12, n, 0, true), REFUSED);
        due.is("use name " + n, x.use(12, 12, n, true), REFUSED);
        wildReferences(x, n);
    }

    private static void wildReferences(MemberOracle x, int n) {
        due.is("resolve kind " + n, x.resolve(n, 12, 12, 0), REFUSED);
        for (int kind = 0; kind <= 2; kind++) {
            due.is("resolve from " + n, x.resolve(kind, n, 12, 0), REFUSED);
            due.is("resolve type " + n, x.resolve(kind, 12, n, 0), REFUSED);
            due.is("resolve name " + n, x.resolve(kind, 12, 12, n), REFUSED);
        }
        due.is("invoke kind " + n, x.invoke(n, 12, 12, 0, 12), REFUSED);
        due.is("invoke kind " + n, x.invoke(n, 12, 12, 0, 0), REFUSED);
        for (int kind = 0; kind <= 3; kind++) {
            int receiver = kind <= 1 ? 12 : 0;
            due.is("invoke type " + n, x.invoke(kind, n, 12, 0, receiver), REFUSED);
            due.is("invoke from " + n, x.invoke(kind, 12, n, 0, receiver), REFUSED);
            due.is("invoke name " + n, x.invoke(kind, 12, 12, n, receiver), REFUSED);
            due.is("invoke receiver " + n, x.invoke(kind, 12, 12, 0, n), REFUSED);
        }
        due.is("choices after " + n, x.choices(), 0);
    }

    private static void wildChangesNothing(int n) {
        MemberOracle x = world();
        MemberOracle y = world();
        wildAnswers(y, n);
        for (int t = 1; t <= 12; t++) {
            for (int what = 0; what <= 9; what++) {
                due.is("type(" + t + ", " + what + ") after " + n, y.type(t, what), x.type(t, what));
            }
            for (int name = 0; name <= 3; name++) {
                due.is("field " + name + " of " + t + " after " + n, y.resolve(0, t, t, name), x.resolve(0, t, t, name));
                due.is("maximal " + name + " of " + t + " after " + n, y.maximal(t, name), x.maximal(t, name));
            }
        }
    }

    private static void wildOnEmpty() {
        for (int n : WILD) {
            MemberOracle x = new MemberOracle();
            wildAnswers(x, n);
            due.is("still empty after " + n, x.tellInterface(0, true), 1);
        }
    }
}
