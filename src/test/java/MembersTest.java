/** Promises 6, 7 and 8: members told, told anew and not there any more. */
public final class MembersTest {
    private static final int REFUSED = MemberOracle.REFUSED;
    private static final int CHANGE = MemberOracle.CHANGE;
    private static final Due due = new Due("MembersTest");

    public static void main(String[] args) {
        fieldOfClass();
        fieldOfInterface();
        methodOfClass();
        methodOfInterface();
        untell();
        refusedChangesNothing();
        due.end();
    }

    /** 1 and 2 are classes of the packages 0 and 1, 2 below 1; 3 is another one of 0, 4 an interface of 0. */
    private static MemberOracle world() {
        MemberOracle x = new MemberOracle();
        x.tellClass(0, 0, true, false);
        x.tellClass(1, 1, true, false);
        x.tellClass(0, 0, true, false);
        x.tellInterface(0, true);
        x.tellClass(0, 1, true, false);
        return x;
    }

    // Promise 6
    private static void fieldOfClass() {
        MemberOracle x = world();
        for (int name = 0; name <= 3; name++) {
            due.is("field " + name, x.field(1, name, name, name % 2 == 0), 0);
        }
        for (int name = 0; name <= 3; name++) {
            due.is("use " + name + " from itself", x.use(1, 1, name, name % 2 == 0), 1);
            due.is("use " + name + " in the other way", x.use(1, 1, name, name % 2 != 0), CHANGE);
            due.is("use " + name + " from the package", x.resolve(0, 3, 1, name), name >= 1 ? 1 : MemberOracle.ACCESS);
            due.is("use " + name + " from below", x.resolve(0, 2, 1, name), name >= 2 ? 1 : MemberOracle.ACCESS);
            due.is("use " + name + " from afar", x.resolve(0, 5, 1, name), name >= 3 ? 1 : MemberOracle.ACCESS);
        }
        due.is("in its place", x.field(1, 0, 3, false), 0);
        due.is("the new one", x.use(5, 1, 0, false), 1);
        due.is("is not static", x.use(5, 1, 0, true), CHANGE);
        due.is("no method comes of a field", x.resolve(1, 1, 1, 0), MemberOracle.NO_METHOD);
        due.is("name -1", x.field(1, -1, 3, true), REFUSED);
        due.is("name 4", x.field(1, 4, 3, true), REFUSED);
        due.is("access -1", x.field(1, 0, -1, true), REFUSED);
        due.is("access 4", x.field(1, 0, 4, true), REFUSED);
        due.is("type 0", x.field(0, 0, 3, true), REFUSED);
        due.is("type 6", x.field(6, 0, 3, true), REFUSED);
    }

    private static void fieldOfInterface() {
        MemberOracle x = world();
        for (int access = 0; access <= 3; access++) {
            due.is("plain, access " + access, x.field(4, 1, access, false), REFUSED);
            due.is("static, access " + access, x.field(4, 1, access, true), access == 3 ? 0 : REFUSED);
        }
        due.is("it is there", x.use(5, 4, 1, true), 4);
    }

    // Promise 7
    private static void methodOfClass() {
        MemberOracle x = world();
        for (int access = 0; access <= 3; access++) {
            for (int form = 0; form <= 2; form++) {
                String call = "method(1, 2, " + access + ", " + form + ")";
                boolean refused = access == 0 && form == 2;
                due.is(call, x.method(1, 2, access, form), refused ? REFUSED : 0);
                if (!refused) {
                    due.is(call + " from itself", x.resolve(1, 1, 1, 2), 1);
                    due.is(call + " from the package", x.resolve(1, 3, 1, 2), access >= 1 ? 1 : MemberOracle.ACCESS);
                    due.is(call + " from below", x.resolve(1, 2, 1, 2), access >= 2 ? 1 : MemberOracle.ACCESS);
                    due.is(call + " from afar", x.resolve(1, 5, 1, 2), access >= 3 ? 1 : MemberOracle.ACCESS);
                    due.is(call + " as static", x.invoke(3, 1, 1, 2, 0), form == 1 ? 1 : CHANGE);
                    int want = form == 1 ? CHANGE : form == 2 ? MemberOracle.ABSTRACT : 1;
                    due.is(call + " as virtual", x.invoke(0, 1, 1, 2, 1), want);
                }
            }
        }
        due.is("no field comes of a method", x.resolve(0, 1, 1, 2), MemberOracle.NO_FIELD);
        due.is("name -1", x.method(1, -1, 3, 0), REFUSED);
        due.is("name 4", x.method(1, 4, 3, 0), REFUSED);
        due.is("access -1", x.method(1, 0, -1, 0), REFUSED);
        due.is("access 4", x.method(1, 0, 4, 0), REFUSED);
        due.is("form -1", x.method(1, 0, 3, -1), REFUSED);
        due.is("form 3", x.method(1, 0, 3, 3), REFUSED);
        due.is("type 0", x.method(0, 0, 3, 0), REFUSED);
        due.is("type 6", x.method(6, 0, 3, 0), REFUSED);
    }

    private static void methodOfInterface() {
        MemberOracle x = world();
        for (int access = 0; access <= 3; access++) {
            for (int form = 0; form <= 2; form++) {
                boolean taken = access == 3 || access == 0 && form != 2;
                String call = "method(4, 3, " + access + ", " + form + ")";
                due.is(call, x.method(4, 3, access, form), taken ? 0 : REFUSED);
                if (taken) {
                    due.is(call + " as static", x.invoke(3, 4, 4, 3, 0), form == 1 ? 4 : CHANGE);
                    due.is(call + " from afar", x.resolve(2, 5, 4, 3), access == 3 ? 4 : MemberOracle.ACCESS);
                }
            }
        }
    }

    // Promise 8
    private static void untell() {
        MemberOracle x = world();
        x.field(1, 0, 3, true);
        x.method(1, 0, 3, 1);
        x.method(2, 0, 3, 2);
        due.is("kind -1", x.untell(1, -1, 0), REFUSED);
        due.is("kind 2", x.untell(1, 2, 0), REFUSED);
        due.is("name 4", x.untell(1, 0, 4), REFUSED);
        due.is("name -1", x.untell(1, 0, -1), REFUSED);
        due.is("type 0", x.untell(0, 0, 0), REFUSED);
        due.is("type 6", x.untell(6, 0, 0), REFUSED);
        due.is("another name", x.untell(1, 0, 1), REFUSED);
        due.is("no field of 2", x.untell(2, 0, 0), REFUSED);
        due.is("field", x.untell(1, 0, 0), 0);
        due.is("field again", x.untell(1, 0, 0), REFUSED);
        due.is("field is gone", x.resolve(0, 1, 1, 0), MemberOracle.NO_FIELD);
        due.is("method of 1 stands", x.resolve(1, 1, 1, 0), 1);
        due.is("method of 2 stands", x.resolve(1, 1, 2, 0), 2);
        due.is("method of 2", x.untell(2, 1, 0), 0);
        due.is("now that of 1", x.resolve(1, 1, 2, 0), 1);
        due.is("method of 1", x.untell(1, 1, 0), 0);
        due.is("now none", x.resolve(1, 1, 2, 0), MemberOracle.NO_METHOD);
        due.is("told anew, plain", x.method(1, 0, 3, 0), 0);
        due.is("is not static any more", x.invoke(3, 1, 1, 0, 0), CHANGE);
        due.is("is not abstract", x.invoke(0, 1, 1, 0, 2), 1);
    }

    private static void refusedChangesNothing() {
        MemberOracle x = world();
        x.method(1, 0, 3, 1);
        x.field(4, 0, 3, true);
        due.is("private abstract", x.method(1, 0, 0, 2), REFUSED);
        due.is("bad access", x.method(1, 0, 4, 0), REFUSED);
        due.is("static and public as before", x.invoke(3, 1, 5, 0, 0), 1);
        due.is("plain field of an interface", x.field(4, 0, 3, false), REFUSED);
        due.is("private field of an interface", x.field(4, 0, 0, true), REFUSED);
        due.is("static and public as before", x.use(5, 4, 0, true), 4);
        due.is("package method of an interface", x.method(4, 0, 1, 0), REFUSED);
        due.is("protected method of an interface", x.method(4, 0, 2, 0), REFUSED);
        due.is("it has none", x.untell(4, 1, 0), REFUSED);
    }
}
