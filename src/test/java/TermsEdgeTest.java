/** Promise 1 and the terms of types, members, MAY BE USED, MAXIMAL and CHOICES, each at its boundaries. */
public final class TermsEdgeTest {
    private static final Runs runs = new Runs("TermsEdgeTest");

    public static void main(String[] args) {
        newObject();
        numbersOfTypes();
        supertypes();
        superinterfaces();
        hosts();
        names();
        typeMayBeUsed();
        for (int kind = 0; kind <= 1; kind++) {
            memberMayBeUsed(kind);
        }
        notAbstract();
        maximalBounds();
        choicesOfFields();
        choicesOfMethods();
        choicesByAny();
        choicesOfNothing();
        lastCallOfAnObject();
        runs.end();
    }

    private static void newObject() {
        runs.run("promise 1: of a new object nothing is told", """
            choices() = 0
            type(0..1, 0..9) = REFUSED
            type(FAR, 0) = REFUSED
            isA(0..1, 0..1) = false
            mates(0..1, 0..1) = false
            overrides(0..1, 0..1, 0) = false
            maximal(0..1, 0) = REFUSED
            resolve(0..2, 0..1, 0..1, 0) = REFUSED
            use(0..1, 0..1, 0, true) = REFUSED
            invoke(0..3, 0..1, 0..1, 0, 0..1) = REFUSED
            implement(0..1, 0..1) = REFUSED
            nest(0..1, 0..1) = REFUSED
            field(0..1, 0, 3, true) = REFUSED
            method(0..1, 0, 3, 0) = REFUSED
            untell(0..1, 0..1, 0) = REFUSED
            choices() = 0
            tellClass(0, 0, true, false) = 1
            """);
        runs.run("promise 1: a new type has no member, superclass or superinterface", """
            tellClass(0, 0, true, false) = 1
            tellInterface(0, true) = 2
            untell(1..2, 0..1, 0..3) = REFUSED
            type(1..2, 0) = 0
            type(1..2, 3..8) = 0
            resolve(0, 1, 1..2, 0..3) = NO_FIELD
            resolve(1, 1, 1, 0..3) = NO_METHOD
            resolve(2, 1, 2, 0..3) = NO_METHOD
            """);
    }

    private static void numbersOfTypes() {
        runs.run("terms: numbered as they are told, at most 12, the last a class", Runs.interfaces(1, 6)
            + Runs.classes(7, 12) + """
            tellClass(0, 0, true, false) = FULL
            tellClass(12, 0, true, false) = FULL
            tellInterface(0, true) = FULL
            type(1..6, 9) = 1
            type(7..12, 9) = 0
            type(0, 9) = REFUSED
            type(13, 9) = REFUSED
            type(FAR, 9) = REFUSED
            """);
        runs.run("terms: at most 12, the last an interface", Runs.chain(1, 11) + """
            tellInterface(0, true) = 12
            tellInterface(0, true) = FULL
            tellInterface(0, true) = FULL
            tellClass(11, 0, true, false) = FULL
            type(12, 9) = 1
            type(13, 9) = REFUSED
            """);
        runs.run("terms: a refused call takes no number", """
            tellClass(0, 3, true, false) = REFUSED
            tellInterface(3, true) = REFUSED
            tellClass(1, 0, true, false) = REFUSED
            tellInterface(0, true) = 1
            tellClass(1, 0, true, false) = REFUSED
            tellClass(0, 0, true, false) = 2
            """);
    }

    private static void supertypes() {
        runs.run("terms: the longest chain of classes", Runs.chain(1, 12) + """
            type(1, 8) = 0
            type(2, 8) = 1
            type(12, 8) = 11
            isA(12, 1..12) = true
            isA(1, 2..12) = false
            isA(1, 1) = true
            """);
        StringBuilder links = new StringBuilder();
        for (int type = 2; type <= 12; type++) {
            links.append("implement(" + type + ", " + (type - 1) + ") = 1\n");
        }
        runs.run("terms: the longest chain of interfaces", Runs.interfaces(1, 12) + links + """
            type(1, 8) = 0
            type(2, 8) = 1
            type(12, 8) = 11
            isA(12, 1..12) = true
            isA(1, 2..12) = false
            """);
        runs.run("terms: superclass, superinterfaces, and theirs", Runs.interfaces(1, 4) + Runs.chain(5, 6) + """
            implement(2, 1) = 1
            implement(5, 2) = 1
            implement(6, 3) = 1
            implement(6, 2) = 2    // one of its superclass too: it counts once
            type(6, 8) = 4
            isA(6, 1..3) = true    // 1 by way of 2
            isA(6, 4) = false
            isA(6, 5..6) = true
            isA(5, 1..2) = true
            isA(5, 3..4) = false
            isA(5, 6) = false
            isA(2, 5..6) = false
            """);
        runs.run("terms: what is told of a supertype later holds for the types below", Runs.interfaces(1, 2)
            + Runs.chain(3, 5) + """
            isA(5, 1..2) = false
            implement(3, 2) = 1
            isA(5, 2) = true
            isA(5, 1) = false
            implement(2, 1) = 1
            isA(5, 1) = true
            type(5, 8) = 4
            type(5, 3) = 0
            """);
    }

    private static void superinterfaces() {
        runs.run("terms: up to four direct ones, in the order in which they were added", Runs.interfaces(1, 5)
            + Runs.classes(6, 6) + """
            field(1..5, 0, 3, true) = 0
            implement(6, 4) = 1
            implement(6, 2) = 2
            implement(6, 5) = 3
            implement(6, 1) = 4
            implement(6, 3) = FULL
            type(6, 3) = 4
            type(6, 4) = 4
            type(6, 5) = 2
            type(6, 6) = 5
            type(6, 7) = 1
            resolve(0, 6, 6, 0) = 4
            untell(4, 0, 0) = 0
            resolve(0, 6, 6, 0) = 2
            untell(2, 0, 0) = 0
            resolve(0, 6, 6, 0) = 5
            untell(5, 0, 0) = 0
            resolve(0, 6, 6, 0) = 1
            untell(1, 0, 0) = 0
            resolve(0, 6, 6, 0) = NO_FIELD    // 3 was not added
            """);
    }

    private static void hosts() {
        StringBuilder rows = new StringBuilder(Runs.interfaces(1, 6) + Runs.classes(7, 12));
        for (int type = 1; type <= 12; type++) {
            rows.append("type(" + type + ", 2) = " + type + "\n");
            for (int other = 1; other <= 12; other++) {
                rows.append("mates(" + type + ", " + other + ") = " + (type == other) + "\n");
            }
        }
        runs.run("terms: a host: itself at first", rows.toString());
    }

    private static void names() {
        StringBuilder rows = new StringBuilder(Runs.classes(1, 3));
        for (int name = 0; name <= 3; name++) {
            rows.append("field(2, " + name + ", 3, true) = 0\n");
            for (int type = 1; type <= 3; type++) {
                for (int other = 0; other <= 3; other++) {
                    String want = type == 2 && other <= name ? "2" : "NO_FIELD";
                    rows.append("use(1, " + type + ", " + other + ", true) = " + want + "\n");
                    rows.append("resolve(1, 1, " + type + ", " + other + ") = NO_METHOD\n");
                }
            }
        }
        runs.run("terms: one field of each name, apart from the other names, types and methods", rows.toString());
        runs.run("terms: one method of each name, apart from the other names, types and fields",
            Runs.classes(1, 3) + """
            method(2, 0, 3, 0) = 0
            method(2, 3, 3, 1) = 0
            resolve(1, 1, 2, 0) = 2
            resolve(1, 1, 2, 1..2) = NO_METHOD
            resolve(1, 1, 2, 3) = 2
            resolve(1, 2, 1, 0..3) = NO_METHOD
            resolve(1, 2, 3, 0..3) = NO_METHOD
            resolve(0, 2, 2, 0..3) = NO_FIELD
            """);
    }

    private static void typeMayBeUsed() {
        runs.run("terms: a type may be used from D if it is PUBLIC or in the package of D", """
            tellClass(0, 0, false, false) = 1
            tellClass(0, 0, true, false) = 2
            tellInterface(0, false) = 3
            tellInterface(0, true) = 4
            tellClass(1, 1, true, false) = 5
            tellClass(0, 0, true, false) = 6
            field(1..4, 0, 3, true) = 0
            method(1..4, 0, 3, 1) = 0
            implement(5, 3) = 1
            resolve(0, 6, 1, 0) = 1
            resolve(0, 6, 3, 0) = 3
            resolve(0, 5, 1, 0) = ACCESS    // that 5 IS A 1 is of no help
            choices() = 0
            resolve(0, 5, 2, 0) = 2
            resolve(0, 5, 3, 0) = ACCESS
            resolve(0, 5, 4, 0) = 4
            resolve(1, 6, 1, 0) = 1
            resolve(1, 5, 1, 0) = ACCESS
            choices() = 0
            resolve(1, 5, 2, 0) = 2
            resolve(2, 6, 3, 0) = 3
            resolve(2, 5, 3, 0) = ACCESS
            choices() = 0
            resolve(2, 5, 4, 0) = 4
            resolve(0, 5, 5, 0) = 3         // the type in which the field is is not asked
            resolve(1, 5, 5, 0) = 1
            invoke(3, 1, 5, 0, 0) = ACCESS
            invoke(3, 2, 5, 0, 0) = 2
            use(5, 1, 0, true) = ACCESS
            use(5, 2, 0, true) = 2
            """);
        runs.run("terms: a nestmate is in the package, so it may use a type that is not PUBLIC", """
            tellClass(0, 2, false, false) = 1
            tellClass(0, 2, false, false) = 2
            field(1, 0, 0, true) = 0
            nest(2, 1) = 0
            resolve(0, 2, 1, 0) = 1
            """);
    }

    /** 2 has the member, 1 is above it, 4, 5 and 6 are below it, and 8 is its nestmate. */
    private static void memberMayBeUsed(int kind) {
        String world = """
            tellClass(0, 1, true, false) = 1
            tellClass(1, 0, true, false) = 2
            tellClass(0, 0, true, false) = 3
            tellClass(2, 0, true, false) = 4
            tellClass(2, 1, true, false) = 5
            tellClass(5, 2, true, false) = 6
            tellClass(0, 2, true, false) = 7
            tellClass(0, 0, true, false) = 8
            tellInterface(2, true) = 9
            nest(8, 2) = 0
            """;
        // For the types from 1 on, the least access with which the member may be used from there.
        int[] least = {3, 0, 1, 1, 2, 2, 3, 0, 3};
        for (int access = 0; access <= 3; access++) {
            StringBuilder rows = new StringBuilder(world);
            rows.append(kind == 0 ? "field(2, 3, " + access + ", true) = 0\n"
                : "method(2, 3, " + access + ", 1) = 0\n");
            for (int from = 1; from <= least.length; from++) {
                String want = access >= least[from - 1] ? "2" : "ACCESS";
                rows.append("resolve(" + kind + ", " + from + ", 2, 3) = " + want + "\n");
                rows.append("choices() = 1\n");
                rows.append(kind == 0 ? "use(" + from + ", 2, 3, true) = " + want + "\n"
                    : "invoke(3, 2, " + from + ", 3, 0) = " + want + "\n");
            }
            runs.run("terms: a member of the access " + access + " MAY BE USED", rows.toString());
        }
    }

    private static void notAbstract() {
        runs.run("terms: a private or static method is not abstract", Runs.classes(1, 1) + Runs.interfaces(2, 2) + """
            method(1..2, 0, 0, 2) = REFUSED
            untell(1..2, 1, 0) = REFUSED
            method(1..2, 0, 3, 2) = 0
            invoke(0, 1, 1, 0, 1) = ABSTRACT
            method(1..2, 0, 0, 2) = REFUSED
            method(1..2, 0, 3, 1) = 0          // in place of an abstract one
            invoke(3, 1, 1, 0, 0) = 1
            invoke(3, 2, 1, 0, 0) = 2
            method(1..2, 0, 3, 2) = 0
            method(1..2, 0, 0, 0) = 0
            invoke(0, 1, 1, 0, 1) = 1
            invoke(2, 1, 1, 0, 0) = 1
            invoke(2, 2, 2, 0, 0) = 2
            """);
    }

    private static void maximalBounds() {
        runs.run("terms: none, one and two MAXIMAL methods", Runs.interfaces(1, 3) + Runs.classes(4, 4) + """
            implement(4, 1) = 1
            implement(4, 2) = 2
            maximal(4, 0) = 0
            method(3, 0, 3, 0) = 0    // of no supertype
            maximal(4, 0) = 0
            method(1, 0, 3, 2) = 0    // an abstract one counts
            maximal(4, 0) = 2
            method(2, 0, 3, 0) = 0
            maximal(4, 0) = 6
            maximal(4, 1..3) = 0
            method(4, 0, 3, 0) = 0    // its own method is not asked
            maximal(4, 0) = 6
            """);
        runs.run("terms: not those of an I, if one of a J that IS A I is such a method too", Runs.interfaces(1, 3)
            + Runs.chain(4, 5) + """
            implement(2, 1) = 1
            implement(3, 2) = 1
            implement(4, 1) = 1
            implement(5, 3) = 1
            method(1, 0, 3, 0) = 0
            maximal(5, 0) = 2
            method(3, 0, 3, 2) = 0    // past 2, which has none
            maximal(5, 0) = 8
            maximal(4, 0) = 2         // 3 is no supertype of 4
            maximal(3, 0) = 2         // J is among the supertypes, not the type itself
            method(3, 0, 3, 1) = 0
            maximal(5, 0) = 2         // a static one is none such
            method(3, 0, 0, 0) = 0
            maximal(5, 0) = 2         // nor is a private one
            method(2, 0, 3, 0) = 0
            maximal(5, 0) = 4
            method(2, 0, 0, 0) = 0
            method(1, 0, 3, 1) = 0
            maximal(5, 0) = 0
            """);
        runs.run("terms: as many MAXIMAL ones as there can be", Runs.interfaces(1, 9) + Runs.chain(10, 12) + """
            implement(10, 1) = 1
            implement(10, 2) = 2
            implement(10, 3) = 3
            implement(10, 4) = 4
            implement(11, 5) = 1
            implement(11, 6) = 2
            implement(11, 7) = 3
            implement(11, 8) = 4
            implement(12, 9) = 1
            method(1..9, 3, 3, 2) = 0
            maximal(12, 3) = 1022
            maximal(11, 3) = 510
            maximal(10, 3) = 30
            resolve(1, 12, 12, 3) = 1
            choices() = 9
            method(9, 3, 3, 0) = 0
            resolve(1, 12, 12, 3) = 9
            choices() = 1
            """);
    }

    private static void choicesOfFields() {
        runs.run("terms: CHOICES is 1 for a field that was found, in whatever way", Runs.interfaces(1, 2)
            + Runs.chain(3, 4) + """
            implement(2, 1) = 1
            implement(4, 2) = 1
            resolve(0, 4, 4, 0) = NO_FIELD
            choices() = 0
            field(3, 0, 3, true) = 0
            resolve(0, 4, 4, 0) = 3
            choices() = 1
            field(1, 0, 3, true) = 0
            resolve(0, 4, 4, 0) = 1
            choices() = 1
            field(2, 0, 3, true) = 0
            resolve(0, 4, 4, 0) = 2
            choices() = 1
            field(4, 0, 0, true) = 0
            resolve(0, 4, 4, 0) = 4
            choices() = 1
            resolve(0, 3, 4, 0) = ACCESS
            choices() = 1
            """);
    }

    private static void choicesOfMethods() {
        runs.run("terms: CHOICES is 1 for a method found in another way than by any", Runs.interfaces(1, 3)
            + Runs.chain(4, 5) + """
            implement(3, 1) = 1
            implement(3, 2) = 2
            implement(4, 3) = 1
            method(1, 0, 3, 2) = 0
            method(2, 0, 3, 0) = 0
            resolve(1, 5, 5, 0) = 2     // just one of the two MAXIMAL ones is not abstract
            choices() = 1
            resolve(2, 5, 3, 0) = 2
            choices() = 1
            method(3, 0, 3, 2) = 0
            resolve(2, 5, 3, 0) = 3     // its own
            choices() = 1
            method(4, 0, 0, 2) = REFUSED
            method(4, 0, 1, 2) = 0
            resolve(1, 5, 5, 0) = 4     // of the chain
            choices() = 1
            method(5, 0, 0, 0) = 0
            resolve(1, 5, 5, 0) = 5
            choices() = 1
            resolve(1, 4, 5, 0) = ACCESS
            choices() = 1
            """);
    }

    private static void choicesByAny() {
        StringBuilder links = new StringBuilder();
        for (int type = 2; type <= 12; type++) {
            links.append("implement(" + type + ", " + (type - 1) + ") = 1\n");
        }
        runs.run("terms: by any, the one with the least number, and how many there are", Runs.interfaces(1, 11)
            + Runs.classes(12, 12) + links + """
            resolve(1, 12, 12, 2) = NO_METHOD
            choices() = 0
            method(11, 2, 3, 2) = 0
            resolve(1, 12, 12, 2) = 11
            choices() = 1
            resolve(2, 12, 11, 2) = 11
            choices() = 1
            method(2..10, 2, 3, 2) = 0
            resolve(1, 12, 12, 2) = 2
            choices() = 10
            resolve(2, 12, 11, 2) = 11    // its own
            choices() = 1
            untell(11, 1, 2) = 0
            resolve(2, 12, 11, 2) = 2     // 11 has none, and 10, the MAXIMAL one, is abstract
            choices() = 9
            method(11, 2, 3, 2) = 0
            method(1, 2, 3, 2) = 0
            resolve(1, 12, 12, 2) = 1
            choices() = 11
            method(1, 2, 0, 0) = 0        // neither private
            resolve(1, 12, 12, 2) = 2
            choices() = 10
            method(2, 2, 3, 1) = 0        // nor static
            resolve(1, 12, 12, 2) = 3
            choices() = 9
            method(3, 2, 3, 0) = 0        // that it is not abstract is of no help: it is not MAXIMAL
            method(5, 2, 3, 0) = 0
            resolve(1, 12, 12, 2) = 3
            choices() = 9
            method(11, 2, 3, 0) = 0
            resolve(1, 12, 12, 2) = 11
            choices() = 1
            """);
        runs.run("terms: by any, where several of the MAXIMAL ones are not abstract", Runs.interfaces(1, 3)
            + Runs.classes(4, 4) + """
            implement(4, 3) = 1
            implement(4, 2) = 2
            implement(4, 1) = 3
            method(2..3, 0, 3, 0) = 0
            resolve(1, 4, 4, 0) = 2
            choices() = 2
            method(1, 0, 3, 2) = 0
            resolve(1, 4, 4, 0) = 1       // an abstract one may be taken too
            choices() = 3
            method(3, 0, 3, 2) = 0
            resolve(1, 4, 4, 0) = 2
            choices() = 1
            """);
    }

    private static void choicesOfNothing() {
        runs.run("terms: CHOICES is 0 if nothing was found, or C may not be used, or CHANGE comes", """
            tellClass(0, 0, false, false) = 1
            tellInterface(0, false) = 2
            tellClass(0, 1, true, false) = 3
            field(1..2, 0, 3, true) = 0
            method(1..2, 0, 3, 0) = 0
            resolve(0, 1, 1, 0) = 1
            choices() = 1
            resolve(0, 1, 1, 1) = NO_FIELD
            choices() = 0
            resolve(1, 1, 1, 0) = 1
            choices() = 1
            resolve(1, 1, 1, 1) = NO_METHOD
            choices() = 0
            resolve(2, 1, 2, 0) = 2
            choices() = 1
            resolve(2, 1, 2, 1) = NO_METHOD
            choices() = 0
            resolve(0, 1, 1, 0) = 1
            resolve(0, 3, 1, 0) = ACCESS
            choices() = 0
            resolve(1, 1, 1, 0) = 1
            resolve(1, 3, 1, 0) = ACCESS
            choices() = 0
            resolve(2, 1, 2, 0) = 2
            resolve(2, 3, 2, 0) = ACCESS
            choices() = 0
            resolve(1, 1, 1, 0) = 1
            resolve(1, 1, 2, 0) = CHANGE
            choices() = 0
            resolve(2, 1, 2, 0) = 2
            resolve(2, 1, 1, 0) = CHANGE
            choices() = 0
            resolve(1, 3, 2, 0) = ACCESS    // it comes before CHANGE
            resolve(2, 3, 1, 0) = ACCESS
            """);
    }

    private static void lastCallOfAnObject() {
        StringBuilder rows = new StringBuilder(Runs.chain(1, 3));
        rows.append("method(1, 0, 3, 0) = 0\ninvoke(0, 3, 2, 0, 3) = 1\n");
        for (int calls = 5; calls < 511; calls += 2) {
            rows.append("untell(1, 1, 0) = 0\nmethod(1, 0, 3, 0) = 0\n");
        }
        runs.run("an object is used for 512 calls", rows + "invoke(0, 3, 2, 0, 3) = 1\n");
    }
}
