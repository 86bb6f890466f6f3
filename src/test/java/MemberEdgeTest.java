/** Promises 6 to 8, sentence by sentence: just inside the boundary, just outside it, and far outside. */
public final class MemberEdgeTest {
    private static final Runs runs = new Runs("MemberEdgeTest");

    public static void main(String[] args) {
        fieldNumbers();
        fieldInPlace();
        fieldOfAnInterface();
        methodNumbers();
        methodForms();
        methodInPlace();
        methodOfAnInterface();
        untellNumbers();
        untellTakesOneAway();
        untellWhereThereIsNone();
        runs.end();
    }

    private static void fieldNumbers() {
        runs.run("promise 6: the type and the name 0 .. 3", Runs.classes(1, 3) + """
            field(2, -1, 3, true) = REFUSED
            field(2, 4, 3, true) = REFUSED
            field(2, FAR, 3, true) = REFUSED
            field(0, 0, 3, true) = REFUSED
            field(-1, 0, 3, true) = REFUSED
            field(4, 0, 3, true) = REFUSED
            field(FAR, 0, 3, true) = REFUSED
            untell(1..3, 0, 0..3) = REFUSED
            field(1, 0, 3, true) = 0
            field(3, 3, 3, true) = 0
            field(2, 0..3, 3, true) = 0
            field(2, -1, 0, false) = REFUSED
            field(2, 4, 0, false) = REFUSED
            field(2, FAR, 0, false) = REFUSED
            field(0, 3, 0, false) = REFUSED
            field(4, 3, 0, false) = REFUSED
            field(FAR, 3, 0, false) = REFUSED
            use(1, 2, 0..3, true) = 2
            use(3, 1, 0, true) = 1
            use(1, 3, 3, true) = 3
            use(1, 3, 0..2, true) = NO_FIELD
            """);
        runs.run("promise 6: REFUSED for an access not 0 .. 3", Runs.classes(1, 1) + """
            field(1, 0, -1, true) = REFUSED
            field(1, 0, 4, true) = REFUSED
            field(1, 0, FAR, true) = REFUSED
            untell(1, 0, 0) = REFUSED
            field(1, 0, 0, false) = 0
            field(1, 1, 1, true) = 0
            field(1, 2, 2, false) = 0
            field(1, 3, 3, true) = 0
            field(1, 0..3, -1, true) = REFUSED
            field(1, 0..3, 4, false) = REFUSED
            field(1, 0, FAR, true) = REFUSED
            use(1, 1, 0, false) = 1
            use(1, 1, 1, true) = 1
            use(1, 1, 2, false) = 1
            use(1, 1, 3, true) = 1
            """);
        runs.run("promise 6: the twelfth type", Runs.classes(1, 12) + """
            field(12, 0..3, 3, true) = 0
            field(12, 4, 3, true) = REFUSED
            field(13, 0, 3, true) = REFUSED
            use(1, 12, 0..3, true) = 12
            use(1, 11, 0..3, true) = NO_FIELD
            """);
    }

    private static void fieldInPlace() {
        runs.run("promise 6: in place of one told before", """
            tellClass(0, 0, true, false) = 1
            tellClass(0, 1, true, false) = 2
            field(1, 2, 3, true) = 0
            field(1, 1, 3, true) = 0
            field(2, 2, 3, true) = 0
            method(1, 2, 3, 1) = 0
            use(2, 1, 2, true) = 1
            use(2, 1, 2, false) = CHANGE
            field(1, 2, 3, false) = 0
            use(2, 1, 2, false) = 1
            use(2, 1, 2, true) = CHANGE
            field(1, 2, 0, true) = 0
            use(2, 1, 2, true) = ACCESS
            use(1, 1, 2, true) = 1
            field(1, 2, 3, true) = 0
            use(2, 1, 2, true) = 1
            use(2, 1, 1, true) = 1          // the other members are as they were
            use(1, 2, 2, true) = 2
            invoke(3, 1, 2, 2, 0) = 1
            untell(1, 0, 2) = 0
            untell(1, 0, 2) = REFUSED       // there was just one
            use(2, 1, 2, true) = NO_FIELD
            """);
    }

    private static void fieldOfAnInterface() {
        runs.run("promise 6: an interface has public and static fields alone", """
            tellInterface(0, true) = 1
            tellClass(0, 1, true, false) = 2
            field(1, 0, 0..2, true) = REFUSED
            field(1, 0, 0..3, false) = REFUSED
            field(1, 0, -1, true) = REFUSED
            field(1, 0, 4, true) = REFUSED
            field(1, 0, FAR, true) = REFUSED
            field(1, 0, FAR, false) = REFUSED
            untell(1, 0, 0) = REFUSED
            field(1, 0, 3, true) = 0
            field(1, 3, 3, true) = 0
            field(1, 0, 0..2, true) = REFUSED
            field(1, 0, 0..3, false) = REFUSED
            use(2, 1, 0, true) = 1
            use(2, 1, 3, true) = 1
            use(2, 1, 0, false) = CHANGE
            field(1, 4, 3, true) = REFUSED
            field(1, -1, 3, true) = REFUSED
            """);
    }

    private static void methodNumbers() {
        runs.run("promise 7: the type and the name 0 .. 3", Runs.classes(1, 3) + """
            method(2, -1, 3, 0) = REFUSED
            method(2, 4, 3, 0) = REFUSED
            method(2, FAR, 3, 0) = REFUSED
            method(0, 0, 3, 0) = REFUSED
            method(-1, 0, 3, 0) = REFUSED
            method(4, 0, 3, 0) = REFUSED
            method(FAR, 0, 3, 0) = REFUSED
            untell(1..3, 1, 0..3) = REFUSED
            method(1, 0, 3, 1) = 0
            method(3, 3, 3, 1) = 0
            method(2, 0..3, 3, 1) = 0
            method(2, -1, 0, 0) = REFUSED
            method(2, 4, 0, 0) = REFUSED
            method(2, FAR, 0, 0) = REFUSED
            method(0, 3, 0, 0) = REFUSED
            method(4, 3, 0, 0) = REFUSED
            method(FAR, 3, 0, 0) = REFUSED
            invoke(3, 2, 1, 0..3, 0) = 2
            invoke(3, 1, 3, 0, 0) = 1
            invoke(3, 3, 1, 3, 0) = 3
            invoke(3, 3, 1, 0..2, 0) = NO_METHOD
            """);
        runs.run("promise 7: REFUSED for an access not 0 .. 3", Runs.classes(1, 1) + """
            method(1, 0, -1, 0..2) = REFUSED
            method(1, 0, 4, 0..2) = REFUSED
            method(1, 0, FAR, 0) = REFUSED
            untell(1, 1, 0) = REFUSED
            method(1, 0, 0, 0) = 0
            method(1, 1, 1, 1) = 0
            method(1, 2, 2, 2) = 0
            method(1, 3, 3, 0) = 0
            method(1, 0..3, -1, 0) = REFUSED
            method(1, 0..3, 4, 0) = REFUSED
            method(1, 2, FAR, 0) = REFUSED
            invoke(0, 1, 1, 0, 1) = 1
            invoke(3, 1, 1, 1, 0) = 1
            invoke(0, 1, 1, 2, 1) = ABSTRACT
            invoke(0, 1, 1, 3, 1) = 1
            """);
        runs.run("promise 7: the twelfth type", Runs.classes(1, 12) + """
            method(12, 0..3, 3, 1) = 0
            method(12, 4, 3, 1) = REFUSED
            method(13, 0, 3, 1) = REFUSED
            invoke(3, 12, 1, 0..3, 0) = 12
            invoke(3, 11, 1, 0..3, 0) = NO_METHOD
            """);
    }

    private static void methodForms() {
        runs.run("promise 7: form 0 plain, 1 static, 2 abstract, no other", Runs.classes(1, 1) + Runs.interfaces(2, 2)
            + """
            method(1..2, 0, 3, -1) = REFUSED
            method(1..2, 0, 3, 3) = REFUSED
            method(1..2, 0, 3, FAR) = REFUSED
            untell(1..2, 1, 0) = REFUSED
            method(1, 0, 3, 0) = 0
            method(1, 1, 3, 1) = 0
            method(1, 2, 3, 2) = 0
            method(1, 0..2, 3, 3) = REFUSED
            method(1, 0..2, 3, -1) = REFUSED
            method(1, 1, 3, FAR) = REFUSED
            invoke(0, 1, 1, 0, 1) = 1
            invoke(3, 1, 1, 0, 0) = CHANGE
            invoke(0, 1, 1, 1, 1) = CHANGE
            invoke(3, 1, 1, 1, 0) = 1
            invoke(0, 1, 1, 2, 1) = ABSTRACT
            invoke(3, 1, 1, 2, 0) = CHANGE
            """);
        runs.run("promise 7: abstract is REFUSED with private", Runs.classes(1, 1) + Runs.interfaces(2, 2) + """
            method(1..2, 0, 0, 2) = REFUSED
            untell(1..2, 1, 0) = REFUSED
            method(1, 0, 1..3, 2) = 0       // with the others it is taken
            method(2, 0, 3, 2) = 0
            method(1..2, 0, 0, 2) = REFUSED
            invoke(0, 1, 1, 0, 1) = ABSTRACT
            method(1..2, 0, 0, 0..1) = 0    // and private with the other forms
            method(1..2, 0, 0, 2) = REFUSED
            invoke(3, 1, 1, 0, 0) = 1
            invoke(3, 2, 2, 0, 0) = 2
            """);
    }

    private static void methodInPlace() {
        runs.run("promise 7: in place of one told before", """
            tellClass(0, 0, true, false) = 1
            tellClass(0, 1, true, false) = 2
            method(1, 1, 3, 2) = 0
            method(1, 0, 3, 1) = 0
            method(2, 1, 3, 1) = 0
            field(1, 1, 3, true) = 0
            invoke(0, 1, 2, 1, 1) = ABSTRACT
            method(1, 1, 3, 0) = 0          // not abstract any more
            invoke(0, 1, 2, 1, 1) = 1
            method(1, 1, 3, 1) = 0          // static
            invoke(0, 1, 2, 1, 1) = CHANGE
            invoke(3, 1, 2, 1, 0) = 1
            method(1, 1, 0, 0) = 0          // private, not static any more
            invoke(0, 1, 2, 1, 1) = ACCESS
            invoke(0, 1, 1, 1, 1) = 1
            method(1, 1, 3, 2) = 0          // public and abstract
            invoke(0, 1, 2, 1, 1) = ABSTRACT
            invoke(3, 1, 2, 0, 0) = 1       // the other members are as they were
            invoke(3, 2, 1, 1, 0) = 2
            use(2, 1, 1, true) = 1
            untell(1, 1, 1) = 0
            untell(1, 1, 1) = REFUSED       // there was just one
            invoke(0, 1, 2, 1, 1) = NO_METHOD
            """);
        runs.run("promise 7: in place of one told before, in an interface", Runs.interfaces(1, 1)
            + Runs.classes(2, 2) + """
            implement(2, 1) = 1
            method(1, 0, 0, 0) = 0
            maximal(2, 0) = 0
            method(1, 0, 3, 0) = 0          // not private any more
            maximal(2, 0) = 2
            method(1, 0, 3, 1) = 0
            maximal(2, 0) = 0
            method(1, 0, 3, 2) = 0          // not static any more
            maximal(2, 0) = 2
            """);
    }

    private static void methodOfAnInterface() {
        runs.run("promise 7: an interface has private or public methods alone", Runs.interfaces(1, 1) + """
            method(1, 0, 1..2, 0..2) = REFUSED
            method(1, 0, 0, 2) = REFUSED
            method(1, 0, -1, 0) = REFUSED
            method(1, 0, 4, 0) = REFUSED
            method(1, 0, FAR, 0) = REFUSED
            untell(1, 1, 0) = REFUSED
            method(1, 0, 0, 0..1) = 0
            method(1, 1, 3, 0..2) = 0
            method(1, 0, 1..2, 0..2) = REFUSED
            method(1, 1, 1..2, 0..2) = REFUSED
            invoke(3, 1, 1, 0, 0) = 1
            invoke(2, 1, 1, 1, 0) = ABSTRACT
            """);
    }

    private static void untellNumbers() {
        runs.run("promise 8: field 0 or method 1, of a type and a name", Runs.classes(1, 3) + """
            field(1..3, 0..3, 3, true) = 0
            method(1..3, 0..3, 3, 1) = 0
            untell(2, -1, 0) = REFUSED
            untell(2, 2, 0) = REFUSED
            untell(2, FAR, 0) = REFUSED
            untell(2, 0..1, -1) = REFUSED
            untell(2, 0..1, 4) = REFUSED
            untell(2, 0..1, FAR) = REFUSED
            untell(0, 0..1, 0) = REFUSED
            untell(-1, 0..1, 0) = REFUSED
            untell(4, 0..1, 0) = REFUSED
            untell(FAR, 0..1, 0) = REFUSED
            untell(2, 0, 0..3) = 0
            untell(1, 1, 0) = 0
            untell(3, 1, 3) = 0
            """);
    }

    private static void untellTakesOneAway() {
        runs.run("promise 8: is not there any more", Runs.interfaces(1, 1) + Runs.chain(2, 3) + """
            implement(3, 1) = 1
            field(1..3, 1, 3, true) = 0
            method(1..3, 1, 3, 0) = 0
            untell(3, 0, 1) = 0
            resolve(0, 3, 3, 1) = 1
            resolve(1, 3, 3, 1) = 3       // the method is
            untell(3, 1, 1) = 0
            resolve(1, 3, 3, 1) = 2
            overrides(3, 2, 1) = false
            untell(1, 0, 1) = 0
            resolve(0, 3, 3, 1) = 2
            resolve(2, 3, 1, 1) = 1
            untell(2, 1, 1) = 0
            resolve(1, 3, 3, 1) = 1
            maximal(3, 1) = 2
            untell(1, 1, 1) = 0
            resolve(1, 3, 3, 1) = NO_METHOD
            maximal(3, 1) = 0
            untell(2, 0, 1) = 0
            resolve(0, 3, 3, 1) = NO_FIELD
            field(2, 1, 3, false) = 0     // told anew, it is as told
            use(3, 3, 1, false) = 2
            method(2, 1, 3, 0) = 0
            invoke(0, 3, 3, 1, 3) = 2
            """);
        runs.run("promise 8: nothing of it comes back with a new one", Runs.interfaces(1, 1) + Runs.classes(2, 2) + """
            implement(2, 1) = 1
            method(1, 0, 3, 2) = 0
            untell(1, 1, 0) = 0
            method(1, 0, 3, 0) = 0
            invoke(1, 1, 2, 0, 2) = 1     // not abstract
            untell(1, 1, 0) = 0
            method(1, 0, 0, 1) = 0
            untell(1, 1, 0) = 0
            method(1, 0, 3, 0) = 0
            invoke(1, 1, 2, 0, 2) = 1     // neither private nor static
            maximal(2, 0) = 2
            """);
    }

    private static void untellWhereThereIsNone() {
        runs.run("promise 8: REFUSED if there is none", Runs.interfaces(1, 1) + Runs.chain(2, 3) + """
            implement(3, 1) = 1
            untell(1..3, 0..1, 0..3) = REFUSED
            field(1..2, 0, 3, true) = 0
            method(1..2, 1, 3, 0) = 0
            untell(3, 0..1, 0..1) = REFUSED     // what a supertype has is not its own
            untell(1..2, 1, 0) = REFUSED        // a field is no method
            untell(1..2, 0, 1) = REFUSED        // a method is no field
            untell(1..2, 0..1, 2..3) = REFUSED
            untell(2, 0, 0) = 0
            untell(2, 0, 0) = REFUSED
            untell(2, 1, 1) = 0
            untell(2, 1, 1) = REFUSED
            untell(1, 0, 0) = 0
            untell(1, 1, 1) = 0
            """);
    }
}
