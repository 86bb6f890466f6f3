/** Promises 9 to 11, sentence by sentence: just inside the boundary, just outside it, and far outside. */
public final class ResolveEdgeTest {
    private static final Runs runs = new Runs("ResolveEdgeTest");

    public static void main(String[] args) {
        resolveNumbers();
        fieldIsSearched();
        fieldAtTheEndOfTheSearch();
        methodIsResolved();
        methodByInterfaces();
        interfaceMethodIsResolved();
        accessComesLast();
        choicesBeforeTheFirst();
        choicesOfTheLast();
        choicesOfInvoke();
        useNumbers();
        useAsItIs();
        useAnswersAsResolve();
        runs.end();
    }

    /** The class 4 has two choices in its interfaces, so that CHOICES stands at 2. */
    private static String twoChoices() {
        return Runs.interfaces(1, 3) + Runs.classes(4, 4) + """
            implement(4, 1) = 1
            implement(4, 2) = 2
            method(1..2, 0, 3, 2) = 0
            field(4, 0, 3, true) = 0
            method(3, 0, 3, 0) = 0
            """;
    }

    private static void resolveNumbers() {
        runs.run("promise 9: REFUSED for numbers out of range", twoChoices() + """
            resolve(0, 4, 4, 0) = 4
            resolve(2, 4, 3, 0) = 3
            resolve(1, 4, 4, 3) = NO_METHOD
            resolve(1, 1, 4, 0) = 1
            choices() = 2
            resolve(-1, 4, 4, 0) = REFUSED
            resolve(3, 4, 4, 0) = REFUSED
            resolve(FAR, 4, 4, 0) = REFUSED
            resolve(0..2, 0, 4, 0) = REFUSED
            resolve(0..2, -1, 4, 0) = REFUSED
            resolve(0..2, 5, 4, 0) = REFUSED
            resolve(1, FAR, 4, 0) = REFUSED
            resolve(0..2, 4, 0, 0) = REFUSED
            resolve(0..2, 4, -1, 0) = REFUSED
            resolve(0..2, 4, 5, 0) = REFUSED
            resolve(1, 4, FAR, 0) = REFUSED
            resolve(0..2, 4, 4, -1) = REFUSED
            resolve(0..2, 4, 4, 4) = REFUSED
            resolve(1, 4, 4, FAR) = REFUSED
            choices() = 2
            """);
        runs.run("promise 9: REFUSED for numbers far out of range, as a FIELD and an INTERFACE METHOD",
            twoChoices() + """
            resolve(1, 1, 4, 0) = 1
            resolve(0, FAR, 4, 0) = REFUSED
            resolve(0, 4, FAR, 0) = REFUSED
            resolve(0, 4, 4, FAR) = REFUSED
            resolve(2, FAR, 3, 0) = REFUSED
            resolve(2, 4, FAR, 0) = REFUSED
            resolve(2, 4, 3, FAR) = REFUSED
            resolve(FAR, FAR, FAR, FAR) = REFUSED
            choices() = 2
            """);
        runs.run("promise 9: the first and the twelfth type", Runs.chain(1, 12) + """
            field(1, 3, 3, true) = 0
            method(12, 3, 3, 0) = 0
            resolve(0, 12, 12, 3) = 1
            resolve(0, 12, 1, 3) = 1
            resolve(1, 1, 12, 3) = 12
            resolve(1, 12, 11, 3) = NO_METHOD
            resolve(0..2, 13, 12, 3) = REFUSED
            resolve(0..2, 12, 13, 3) = REFUSED
            resolve(0..2, 0, 12, 3) = REFUSED
            resolve(0..2, 12, 0, 3) = REFUSED
            """);
    }

    private static void fieldIsSearched() {
        runs.run("promise 9: own field, else each direct superinterface in order, else the superclass", """
            tellInterface(0, true) = 1
            tellInterface(0, true) = 2
            tellInterface(0, true) = 3
            tellInterface(0, true) = 4
            tellClass(0, 0, true, false) = 5
            tellClass(5, 0, true, false) = 6
            implement(3, 1) = 1
            implement(5, 4) = 1
            implement(6, 3) = 1
            implement(6, 2) = 2
            resolve(0, 6, 6, 0) = NO_FIELD
            field(4, 0, 3, true) = 0
            resolve(0, 6, 6, 0) = 4     // a superinterface of the superclass
            field(5, 0, 3, false) = 0
            resolve(0, 6, 6, 0) = 5
            field(2, 0, 3, true) = 0
            resolve(0, 6, 6, 0) = 2
            field(1, 0, 3, true) = 0
            resolve(0, 6, 6, 0) = 1     // by 3, which was added before 2
            field(3, 0, 3, true) = 0
            resolve(0, 6, 6, 0) = 3
            field(6, 0, 0, false) = 0
            resolve(0, 6, 6, 0) = 6
            resolve(0, 6, 5, 0) = 5
            resolve(0, 6, 3, 0) = 3
            resolve(0, 6, 6, 1..3) = NO_FIELD
            """);
        runs.run("promise 9: in an interface the same search", Runs.interfaces(1, 4) + """
            implement(4, 3) = 1
            implement(4, 1) = 2
            implement(3, 2) = 1
            resolve(0, 4, 4, 0) = NO_FIELD
            field(1, 0, 3, true) = 0
            resolve(0, 4, 4, 0) = 1
            field(2, 0, 3, true) = 0
            resolve(0, 4, 4, 0) = 2
            field(4, 0, 3, true) = 0
            resolve(0, 4, 4, 0) = 4
            """);
    }

    private static void fieldAtTheEndOfTheSearch() {
        runs.run("promise 9: at the end of the longest search", Runs.interfaces(1, 1) + Runs.chain(2, 12) + """
            implement(2, 1) = 1
            resolve(0, 12, 12, 3) = NO_FIELD
            field(1, 3, 3, true) = 0
            resolve(0, 12, 12, 3) = 1
            field(2, 3, 3, true) = 0
            resolve(0, 12, 12, 3) = 2
            """);
        runs.run("promise 9: behind four direct superinterfaces the superclass, not a fifth", Runs.interfaces(1, 8)
            + Runs.chain(9, 12) + """
            implement(11, 1) = 1
            implement(11, 2) = 2
            implement(11, 3) = 3
            implement(11, 4) = 4
            implement(12, 5) = 1
            implement(12, 6) = 2
            implement(12, 7) = 3
            implement(12, 8) = 4
            field(5, 0, 3, true) = 0
            field(10, 0, 3, true) = 0
            field(10, 1, 3, true) = 0
            field(8, 2, 3, true) = 0
            resolve(0, 12, 11, 0) = 10
            resolve(0, 12, 12, 0) = 5
            resolve(0, 12, 12, 1) = 10
            resolve(0, 12, 12, 2) = 8         // the fourth
            """);
        runs.run("promise 9: what is found first counts, be it private", Runs.chain(1, 3) + """
            field(1, 0, 3, true) = 0
            field(2, 0, 0, true) = 0
            resolve(0, 3, 3, 0) = ACCESS
            choices() = 1
            resolve(0, 2, 3, 0) = 2
            """);
    }

    private static void methodIsResolved() {
        runs.run("promise 9: a METHOD in an interface: CHANGE; else the first in the chain", Runs.interfaces(1, 1)
            + Runs.chain(2, 4) + """
            implement(4, 1) = 1
            method(1, 0, 3, 0) = 0
            resolve(1, 4, 1, 0) = CHANGE
            choices() = 0
            resolve(1, 4, 1, 3) = CHANGE      // there or not
            resolve(1, 4, 4, 0) = 1
            method(2, 0, 3, 2) = 0
            resolve(1, 4, 4, 0) = 2           // an abstract one at the end of the chain
            method(3, 0, 3, 1) = 0
            resolve(1, 4, 4, 0) = 3           // a static one
            method(4, 0, 0, 0) = 0
            resolve(1, 4, 4, 0) = 4           // a private one
            resolve(1, 3, 4, 0) = ACCESS
            resolve(1, 4, 2, 0) = 2
            resolve(1, 4, 4, 1..3) = NO_METHOD
            """);
        runs.run("promise 9: the end of the longest chain", Runs.chain(1, 12) + """
            resolve(1, 12, 12, 0) = NO_METHOD
            method(1, 0, 3, 2) = 0
            resolve(1, 12, 12, 0) = 1
            """);
    }

    private static void methodByInterfaces() {
        runs.run("promise 9: just one MAXIMAL method that is not abstract, else any, else NO_METHOD",
            Runs.interfaces(1, 4) + Runs.chain(5, 6) + """
            implement(3, 1) = 1
            implement(5, 3) = 1
            implement(6, 4) = 1
            implement(6, 2) = 2
            resolve(1, 6, 6, 0) = NO_METHOD
            method(4, 0, 3, 2) = 0
            resolve(1, 6, 6, 0) = 4           // none is not abstract: any of one
            method(2, 0, 3, 2) = 0
            resolve(1, 6, 6, 0) = 2           // any of two: the least
            choices() = 2
            method(1, 0, 3, 0) = 0
            resolve(1, 6, 6, 0) = 1           // just one is not abstract
            choices() = 1
            method(3, 0, 3, 2) = 0
            resolve(1, 6, 6, 0) = 1           // it is not MAXIMAL now: any of four
            choices() = 4
            method(4, 0, 3, 0) = 0
            resolve(1, 6, 6, 0) = 4           // just one again
            choices() = 1
            method(3, 0, 3, 0) = 0
            resolve(1, 6, 6, 0) = 1           // two: any of four
            choices() = 4
            untell(1, 1, 0) = 0
            resolve(1, 6, 6, 0) = 2
            choices() = 3
            resolve(1, 6, 5, 0) = 3
            choices() = 1
            """);
        runs.run("promise 9: the MAXIMAL methods for C, not for the D that asks", Runs.interfaces(1, 3)
            + Runs.classes(4, 5) + """
            implement(3, 1) = 1
            implement(4, 1) = 1
            implement(5, 2) = 1
            method(1..2, 0, 3, 0) = 0
            resolve(1, 5, 4, 0) = 1
            resolve(1, 4, 5, 0) = 2
            resolve(2, 5, 3, 0) = 1
            resolve(1, 1, 5, 0) = 2
            choices() = 1
            """);
    }

    private static void interfaceMethodIsResolved() {
        runs.run("promise 9: an INTERFACE METHOD in a class: CHANGE; else its own", Runs.interfaces(1, 2)
            + Runs.classes(3, 3) + """
            implement(2, 1) = 1
            implement(3, 2) = 1
            method(3, 0, 3, 0) = 0
            resolve(2, 3, 3, 0) = CHANGE
            choices() = 0
            resolve(2, 3, 3, 3) = CHANGE      // there or not
            resolve(2, 3, 2, 0) = NO_METHOD
            method(1, 0, 3, 2) = 0
            resolve(2, 3, 2, 0) = 1
            method(2, 0, 3, 2) = 0
            resolve(2, 3, 2, 0) = 2
            method(2, 0, 3, 1) = 0
            resolve(2, 3, 2, 0) = 2
            method(2, 0, 0, 0) = 0
            resolve(2, 2, 2, 0) = 2
            resolve(2, 3, 2, 0) = ACCESS      // it hides that of 1
            choices() = 1
            """);
        runs.run("promise 9: an INTERFACE METHOD, from the MAXIMAL ones on", Runs.interfaces(1, 4) + """
            implement(4, 3) = 1
            implement(4, 2) = 2
            implement(3, 1) = 1
            method(1, 0, 0, 0) = 0
            method(2, 0, 3, 1) = 0
            resolve(2, 4, 4, 0) = NO_METHOD   // neither private nor static ones
            choices() = 0
            method(1, 0, 3, 0) = 0
            resolve(2, 4, 4, 0) = 1
            choices() = 1
            method(2, 0, 3, 0) = 0
            resolve(2, 4, 4, 0) = 1
            choices() = 2
            method(3, 0, 3, 2) = 0
            resolve(2, 4, 4, 0) = 2
            choices() = 1
            method(2, 0, 3, 2) = 0
            resolve(2, 4, 4, 0) = 1
            choices() = 3
            """);
    }

    private static void accessComesLast() {
        runs.run("promise 9: then, if what was found may not be used from D: ACCESS", """
            tellClass(0, 0, true, false) = 1
            tellClass(1, 1, true, false) = 2
            tellClass(0, 1, true, false) = 3
            field(1, 0, 1, true) = 0
            method(1, 0, 1, 0) = 0
            resolve(0..1, 1, 2, 0) = 1
            resolve(0..1, 2, 2, 0) = ACCESS   // of the package of 1, be it asked in 2
            choices() = 1
            field(1, 0, 2, true) = 0
            method(1, 0, 2, 0) = 0
            resolve(0..1, 2, 2, 0) = 1
            resolve(0..1, 3, 2, 0) = ACCESS
            resolve(0, 3, 2, 1) = NO_FIELD
            resolve(1, 3, 2, 1) = NO_METHOD
            """);
    }

    private static void choicesBeforeTheFirst() {
        runs.run("promise 10: 0 before the first", """
            choices() = 0
            tellInterface(0, true) = 1
            tellClass(0, 0, true, false) = 2
            choices() = 0
            implement(2, 1) = 1
            field(2, 0, 3, true) = 0
            method(2, 0, 3, 0) = 0
            nest(2, 1) = 0
            choices() = 0
            use(2, 2, 0, true) = 2            // use is neither resolve nor invoke
            choices() = 0
            resolve(0, 2, 2, 4) = REFUSED
            invoke(0, 2, 2, 0, 0) = REFUSED
            choices() = 0
            resolve(1, 2, 2, 0) = 2
            choices() = 1
            """);
    }

    private static void choicesOfTheLast() {
        runs.run("promise 10: of the last that was not REFUSED", twoChoices() + """
            resolve(1, 4, 4, 0) = 1
            choices() = 2
            choices() = 2                     // asking it does not change it
            resolve(1, 4, 4, 4) = REFUSED
            resolve(3, 4, 4, 0) = REFUSED
            invoke(0, 4, 4, 0, 1) = REFUSED
            invoke(4, 4, 4, 0, 0) = REFUSED
            choices() = 2
            use(4, 4, 0, true) = 4
            use(4, 4, 0, false) = CHANGE
            use(4, 4, 1, true) = NO_FIELD
            use(4, 4, 4, true) = REFUSED
            choices() = 2
            maximal(4, 0) = 6
            isA(4, 1) = true
            overrides(4, 4, 0) = false
            type(4, 8) = 2
            choices() = 2
            untell(1, 1, 0) = 0               // they are those of then
            method(4, 0, 3, 0) = 0
            tellInterface(0, true) = 5
            choices() = 2
            resolve(1, 4, 4, 0) = 4
            choices() = 1
            resolve(1, 4, 4, 1) = NO_METHOD
            choices() = 0
            resolve(1, 4, 4, 4) = REFUSED
            choices() = 0
            resolve(0, 4, 4, 0) = 4
            choices() = 1
            """);
    }

    private static void choicesOfInvoke() {
        runs.run("promise 10: of an invoke, in each kind", twoChoices() + """
            method(4, 1, 3, 1) = 0
            method(3, 1, 0, 0) = 0
            implement(3, 1) = 1
            implement(3, 2) = 2
            untell(3, 1, 0) = 0
            invoke(0, 4, 4, 0, 4) = ABSTRACT
            choices() = 2
            invoke(0, 4, 4, 3, 4) = NO_METHOD
            choices() = 0
            invoke(1, 3, 3, 0, 4) = ABSTRACT
            choices() = 2
            invoke(1, 4, 4, 0, 4) = CHANGE    // of resolving: C is a class
            choices() = 0
            invoke(2, 4, 4, 0, 0) = ABSTRACT
            choices() = 2
            invoke(2, 3, 3, 1, 0) = 3
            choices() = 1
            invoke(2, 3, 3, 0, 0) = ABSTRACT
            choices() = 2
            invoke(3, 4, 4, 1, 0) = 4
            choices() = 1
            invoke(3, 4, 4, 3, 0) = NO_METHOD
            choices() = 0
            invoke(3, 3, 4, 1, 0) = ACCESS    // it was found
            choices() = 1
            """);
        runs.run("promise 10: of an invoke that resolves and comes to CHANGE behind it", twoChoices() + """
            method(4, 1, 3, 1) = 0
            invoke(3, 4, 4, 0, 0) = CHANGE    // not static
            choices() = 2
            invoke(0, 4, 4, 1, 4) = CHANGE    // static
            choices() = 1
            method(1..2, 0, 3, 0) = 0
            invoke(0, 4, 4, 0, 4) = CHANGE    // several MAXIMAL ones
            choices() = 2
            invoke(1, 3, 4, 0, 4) = CHANGE    // the receiver
            choices() = 1
            """);
    }

    private static void useNumbers() {
        runs.run("promise 11: REFUSED for numbers out of range", twoChoices() + """
            resolve(1, 4, 4, 0) = 1
            use(1, 4, 0, true) = 4
            use(4, 4, 3, true) = NO_FIELD
            use(0, 4, 0, true) = REFUSED
            use(-1, 4, 0, true) = REFUSED
            use(5, 4, 0, true) = REFUSED
            use(FAR, 4, 0, true) = REFUSED
            use(4, 0, 0, true) = REFUSED
            use(4, -1, 0, true) = REFUSED
            use(4, 5, 0, true) = REFUSED
            use(4, FAR, 0, true) = REFUSED
            use(4, 4, -1, true) = REFUSED
            use(4, 4, 4, true) = REFUSED
            use(4, 4, FAR, true) = REFUSED
            use(FAR, FAR, FAR, false) = REFUSED
            choices() = 2
            """);
    }

    private static void useAsItIs() {
        runs.run("promise 11: CHANGE if it is not so", Runs.interfaces(1, 1) + Runs.chain(2, 3) + """
            implement(3, 1) = 1
            field(2, 0, 3, false) = 0
            use(3, 3, 0, false) = 2
            use(3, 3, 0, true) = CHANGE
            field(2, 0, 3, true) = 0
            use(3, 3, 0, true) = 2
            use(3, 3, 0, false) = CHANGE
            field(1, 0, 3, true) = 0
            use(3, 3, 0, true) = 1
            use(3, 3, 0, false) = CHANGE
            field(3, 0, 3, false) = 0         // the one that is found is asked, not another
            use(3, 3, 0, false) = 3
            use(3, 3, 0, true) = CHANGE
            """);
    }

    private static void useAnswersAsResolve() {
        runs.run("promise 11: what RESOLVE answers comes before CHANGE", """
            tellClass(0, 0, true, false) = 1
            tellClass(0, 0, false, false) = 2
            tellClass(0, 1, true, false) = 3
            field(1, 0, 1, true) = 0
            field(2, 0, 3, false) = 0
            use(3, 1, 0, true) = ACCESS
            use(3, 1, 0, false) = ACCESS
            use(2, 1, 0, true) = 1
            use(3, 2, 0, true) = ACCESS
            use(3, 2, 0, false) = ACCESS
            use(1, 2, 0, false) = 2
            use(3, 3, 0, true) = NO_FIELD
            use(3, 3, 0, false) = NO_FIELD
            use(3, 2, 1, true) = ACCESS
            """);
    }
}
