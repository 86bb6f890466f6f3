/** Promises 2 to 5, sentence by sentence: just inside the boundary, just outside it, and far outside. */
public final class TellEdgeTest {
    private static final Runs runs = new Runs("TellEdgeTest");

    public static void main(String[] args) {
        classInAPackage();
        classWithASuperclass();
        classFull();
        interfaceInAPackage();
        interfaceFull();
        implementLesser();
        implementAgain();
        implementFull();
        implementOfTheLastType();
        nestInItsPackage();
        nestInALesserOne();
        nestInOneThatHostsItself();
        nestOfAHost();
        nestOfTheLastType();
        runs.end();
    }

    private static void classInAPackage() {
        runs.run("promise 2: in a package 0 .. 2", """
            tellClass(0, -1, true, false) = REFUSED
            tellClass(0, 3, true, false) = REFUSED
            tellClass(0, FAR, true, false) = REFUSED
            tellClass(0, 0, true, false) = 1
            tellClass(0, 1, false, false) = 2
            tellClass(1, 2, true, true) = 3
            tellClass(1, -1, true, false) = REFUSED
            tellClass(1, 3, true, false) = REFUSED
            tellClass(1, FAR, true, false) = REFUSED
            type(1, 1) = 0
            type(2, 1) = 1
            type(3, 1) = 2
            type(1..3, 9) = 0
            type(4, 1) = REFUSED
            """);
        runs.run("promise 2: PUBLIC or not", """
            tellClass(0, 0, true, false) = 1
            tellClass(0, 0, false, false) = 2
            tellClass(0, 1, true, true) = 3
            resolve(0, 3, 1, 0) = NO_FIELD
            resolve(0, 3, 2, 0) = ACCESS
            resolve(0, 1, 3, 0) = NO_FIELD
            """);
    }

    private static void classWithASuperclass() {
        runs.run("promise 2: 0 none, or a class that is not FINAL as its superclass, else REFUSED", """
            tellClass(1, 0, true, false) = REFUSED    // the class itself
            tellClass(-1, 0, true, false) = REFUSED
            tellClass(FAR, 0, true, false) = REFUSED
            tellClass(0, 0, true, false) = 1
            tellClass(2, 0, true, false) = REFUSED
            tellClass(1, 0, true, true) = 2           // a FINAL one may have a superclass
            tellClass(2, 0, true, false) = REFUSED    // and is none
            tellClass(2, 0, true, true) = REFUSED
            tellInterface(0, true) = 3
            tellClass(3, 0, true, false) = REFUSED    // an interface
            tellClass(1, 2, false, false) = 4
            tellClass(4, 0, true, false) = 5          // one of another package, not PUBLIC
            tellClass(0, 0, true, true) = 6
            tellClass(6, 0, true, false) = REFUSED
            tellClass(7, 0, true, false) = REFUSED    // the class itself
            tellClass(8, 0, true, false) = REFUSED
            tellClass(-1, 0, true, false) = REFUSED
            tellClass(FAR, 0, true, false) = REFUSED
            type(1, 0) = 0
            type(2, 0) = 1
            type(4, 0) = 1
            type(5, 0) = 4
            type(6, 0) = 0
            tellClass(5, 0, true, false) = 7
            type(7, 0) = 5
            """);
    }

    private static void classFull() {
        runs.run("promise 2: FULL", Runs.chain(1, 10) + """
            tellClass(10, 0, true, true) = 11
            tellClass(10, 0, true, false) = 12
            tellClass(0, 0, true, false) = FULL
            tellClass(12, 2, false, true) = FULL
            tellClass(1, 1, true, false) = FULL
            tellClass(11, 0, true, false) = REFUSED    // what is REFUSED is so when full, too
            tellClass(13, 0, true, false) = REFUSED
            tellClass(-1, 0, true, false) = REFUSED
            tellClass(FAR, 0, true, false) = REFUSED
            tellClass(0, -1, true, false) = REFUSED
            tellClass(0, 3, true, false) = REFUSED
            tellClass(0, FAR, true, false) = REFUSED
            type(12, 0) = 10
            type(13, 0) = REFUSED
            """);
    }

    private static void interfaceInAPackage() {
        runs.run("promise 3: in a package, REFUSED", """
            tellInterface(-1, true) = REFUSED
            tellInterface(3, true) = REFUSED
            tellInterface(FAR, true) = REFUSED
            tellInterface(0, true) = 1
            tellInterface(1, false) = 2
            tellInterface(2, true) = 3
            tellInterface(-1, false) = REFUSED
            tellInterface(3, false) = REFUSED
            tellInterface(FAR, false) = REFUSED
            type(1, 1) = 0
            type(2, 1) = 1
            type(3, 1) = 2
            type(1..3, 9) = 1
            type(1..3, 0) = 0
            resolve(0, 1, 3, 0) = NO_FIELD
            resolve(0, 1, 2, 0) = ACCESS
            type(4, 1) = REFUSED
            """);
    }

    private static void interfaceFull() {
        runs.run("promise 3: FULL", Runs.interfaces(1, 11) + """
            tellInterface(2, false) = 12
            tellInterface(0, true) = FULL
            tellInterface(2, false) = FULL
            tellInterface(-1, true) = REFUSED
            tellInterface(3, true) = REFUSED
            tellInterface(FAR, true) = REFUSED
            type(12, 1) = 2
            type(13, 1) = REFUSED
            """);
    }

    private static void implementLesser() {
        runs.run("promise 4: an interface with a lesser number, else REFUSED", """
            tellInterface(0, true) = 1
            tellClass(0, 0, true, false) = 2
            tellInterface(1, false) = 3
            tellInterface(0, true) = 4
            tellClass(0, 0, true, true) = 5
            implement(1, 1) = REFUSED      // itself
            implement(4, 4) = REFUSED
            implement(3, 4) = REFUSED      // greater
            implement(2, 3) = REFUSED
            implement(1, 4) = REFUSED
            implement(4, 5) = REFUSED
            implement(5, 2) = REFUSED      // a class
            implement(3, 2) = REFUSED
            implement(5, 5) = REFUSED
            implement(5, 0) = REFUSED      // no type
            implement(5, -1) = REFUSED
            implement(5, 6) = REFUSED
            implement(5, FAR) = REFUSED
            implement(0, 1) = REFUSED
            implement(-1, 1) = REFUSED
            implement(6, 1) = REFUSED
            implement(FAR, 1) = REFUSED
            implement(0, 0) = REFUSED
            implement(6, 6) = REFUSED
            implement(FAR, FAR) = REFUSED
            type(1..5, 3) = 0
            implement(4, 3) = 1            // just lesser, of another package, not PUBLIC
            implement(5, 4) = 1
            implement(2, 1) = 1
            implement(5, 1) = 2
            """);
    }

    private static void implementAgain() {
        runs.run("promise 4: which it has not among its direct ones", Runs.interfaces(1, 4) + Runs.chain(5, 6) + """
            implement(2, 1) = 1
            implement(5, 2) = 1
            implement(5, 2) = REFUSED
            implement(5, 1) = 2          // among its supertypes, but not among the direct ones
            implement(5, 1) = REFUSED
            implement(5, 4) = 3
            implement(5, 3) = 4
            implement(5, 1..4) = REFUSED
            implement(6, 2) = 1          // its superclass has it, it has it not
            implement(6, 2) = REFUSED
            implement(6, 1) = 2
            type(6, 3) = 2
            type(6, 8) = 5
            """);
    }

    private static void implementFull() {
        runs.run("promise 4: how many, and FULL with four", Runs.interfaces(1, 6) + Runs.chain(7, 8) + """
            implement(7, 6) = 1
            implement(7, 1) = 2
            implement(7, 5) = 3
            type(7, 3) = 3
            type(7, 7) = 0
            implement(7, 2) = 4
            implement(7, 3) = FULL
            implement(7, 4) = FULL
            implement(7, 6) = REFUSED      // what is REFUSED is so with four, too
            implement(7, 2) = REFUSED
            implement(7, 7) = REFUSED
            implement(7, 8) = REFUSED
            implement(7, 9) = REFUSED
            implement(7, 0) = REFUSED
            implement(7, -1) = REFUSED
            implement(7, FAR) = REFUSED
            type(7, 3) = 4
            type(7, 4) = 6
            type(7, 5) = 1
            type(7, 6) = 5
            type(7, 7) = 2
            isA(7, 3..4) = false
            implement(8, 3) = 1            // those of its superclass are not counted
            implement(6, 1) = 1            // an interface likewise
            implement(6, 2) = 2
            implement(6, 3) = 3
            implement(6, 4) = 4
            implement(6, 5) = FULL
            isA(6, 5) = false
            """);
    }

    private static void implementOfTheLastType() {
        runs.run("promise 4: FULL beside a type that has four too", Runs.interfaces(1, 10) + Runs.classes(11, 12) + """
            implement(12, 1) = 1
            implement(12, 2) = 2
            implement(12, 3) = 3
            implement(12, 10) = 4
            implement(11, 10) = 1
            implement(11, 9) = 2
            implement(11, 8) = 3
            implement(11, 7) = 4
            implement(11, 6) = FULL
            implement(12, 6) = FULL
            implement(12, 11) = REFUSED
            implement(13, 1) = REFUSED
            type(12, 4) = 1
            type(12, 7) = 10
            type(11, 7) = 7
            """);
    }

    private static void nestInItsPackage() {
        runs.run("promise 5: a type of the same package, else REFUSED", """
            tellClass(0, 0, true, false) = 1
            tellInterface(1, true) = 2
            tellClass(1, 0, true, false) = 3
            tellClass(0, 1, true, false) = 4
            tellClass(1, 2, true, false) = 5
            nest(2, 1) = REFUSED
            nest(3, 2) = REFUSED
            nest(4, 1) = REFUSED
            nest(5, 1) = REFUSED         // though it is its superclass
            type(1, 2) = 1
            type(5, 2) = 5
            nest(3, 1) = 0
            nest(4, 2) = 0
            nest(5, 5) = 0
            type(3, 2) = 1
            type(4, 2) = 2
            type(5, 2) = 5
            mates(1, 3) = true
            mates(2, 4) = true
            mates(1, 2) = false
            """);
    }

    private static void nestInALesserOne() {
        runs.run("promise 5: with a lesser number or itself, else REFUSED", Runs.classes(1, 4) + """
            nest(1, 1) = 0
            nest(4, 4) = 0
            nest(1, 2) = REFUSED
            nest(1, 4) = REFUSED
            nest(3, 4) = REFUSED
            nest(3, 5) = REFUSED
            nest(3, 0) = REFUSED
            nest(3, -1) = REFUSED
            nest(3, FAR) = REFUSED
            nest(0, 1) = REFUSED
            nest(-1, 1) = REFUSED
            nest(5, 1) = REFUSED
            nest(FAR, 1) = REFUSED
            nest(0, 0) = REFUSED
            nest(5, 5) = REFUSED
            nest(FAR, FAR) = REFUSED
            nest(3, 2) = 0
            type(3, 2) = 2
            nest(4, 1) = 0
            type(4, 2) = 1
            """);
    }

    private static void nestInOneThatHostsItself() {
        runs.run("promise 5: whose own host is itself, else REFUSED", Runs.classes(1, 4) + """
            nest(2, 1) = 0
            nest(3, 2) = REFUSED
            nest(4, 2) = REFUSED
            nest(2, 2) = REFUSED        // its own host is 1 now
            type(2, 2) = 1
            nest(3, 1) = 0
            nest(4, 3) = REFUSED
            nest(3, 1) = 0              // the same again
            nest(4, 1) = 0
            type(1..4, 2) = 1
            mates(1..4, 1..4) = true
            """);
    }

    private static void nestOfAHost() {
        runs.run("promise 5: REFUSED if the type is another one's host", Runs.classes(1, 4) + """
            nest(2, 2) = 0              // its own host alone
            nest(3, 2) = 0
            nest(2, 1) = REFUSED
            nest(2, 2) = REFUSED
            type(3, 2) = 2
            nest(4, 2) = 0
            nest(3, 1) = 0
            nest(2, 1) = REFUSED        // of 4 still
            nest(1, 1) = REFUSED        // of 3
            nest(4, 1) = 0
            nest(2, 2) = 0              // of none any more
            nest(2, 1) = 0
            type(1..4, 2) = 1
            """);
    }

    private static void nestOfTheLastType() {
        runs.run("promise 5: the twelfth type as the only guest", Runs.interfaces(1, 11) + Runs.classes(12, 12) + """
            nest(12, 11) = 0
            nest(11, 10) = REFUSED
            nest(11, 11) = REFUSED
            nest(12, 12) = REFUSED
            nest(12, 13) = REFUSED
            nest(13, 12) = REFUSED
            nest(13, 13) = REFUSED
            nest(12, 1) = 0
            nest(11, 10) = 0
            nest(1, 1) = REFUSED
            """);
    }
}
