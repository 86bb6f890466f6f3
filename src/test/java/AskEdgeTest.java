/** Promises 13 to 17, sentence by sentence: just inside the boundary, just outside it, and far outside. */
public final class AskEdgeTest {
    private static final Runs runs = new Runs("AskEdgeTest");

    public static void main(String[] args) {
        isA();
        mates();
        overridesOfOthers();
        for (int form = 0; form <= 2; form += 2) {
            overridesByAccess(form);
        }
        overridesOverAClassBetween();
        overridesAnInterface();
        maximal();
        typeOfAClass();
        typeOfAnInterface();
        typeOfOthers();
        runs.end();
    }

    private static void isA() {
        runs.run("promise 13: itself or a supertype; false for others", Runs.interfaces(1, 2) + Runs.chain(3, 4) + """
            isA(1, 1) = true
            isA(4, 4) = true
            isA(4, 3) = true
            isA(3, 4) = false
            isA(4, 1..2) = false
            implement(2, 1) = 1
            implement(3, 2) = 1
            isA(4, 1..2) = true
            isA(1, 2) = false
            isA(2, 3) = false
            isA(0, 0) = false
            isA(4, 0) = false
            isA(0, 1) = false
            isA(5, 5) = false
            isA(4, 5) = false
            isA(5, 1) = false
            isA(-1, -1) = false
            isA(4, -1) = false
            isA(-1, 1) = false
            isA(FAR, FAR) = false
            isA(4, FAR) = false
            isA(FAR, 1) = false
            """);
        runs.run("promise 13: false for others beside a full world", Runs.chain(1, 12) + """
            isA(12, 1) = true
            isA(12, 12) = true
            isA(12, 13) = false
            isA(13, 12) = false
            isA(13, 13) = false
            isA(12, 0) = false
            isA(0, 0) = false
            isA(FAR, FAR) = false
            """);
    }

    private static void mates() {
        runs.run("promise 14: the same host; false for others", Runs.classes(1, 2) + Runs.interfaces(3, 4) + """
            mates(2, 2) = true
            mates(2, 3) = false
            nest(3, 2) = 0
            mates(2, 3) = true
            mates(3, 2) = true
            mates(4, 3) = false
            nest(4, 2) = 0
            mates(4, 3) = true      // both guests
            mates(1, 2..4) = false
            nest(4, 1) = 0
            mates(4, 3) = false
            mates(1, 4) = true
            mates(0, 0) = false
            mates(0, 1) = false
            mates(1, 0) = false
            mates(5, 5) = false
            mates(5, 4) = false
            mates(4, 5) = false
            mates(-1, -1) = false
            mates(1, -1) = false
            mates(-1, 1) = false
            mates(FAR, FAR) = false
            mates(1, FAR) = false
            mates(FAR, 1) = false
            """);
        runs.run("promise 14: false for others beside a full world", Runs.classes(1, 12) + """
            nest(12, 1) = 0
            mates(12, 1) = true
            mates(12, 13) = false
            mates(13, 12) = false
            mates(13, 13) = false
            mates(0, 0) = false
            """);
    }

    private static void overridesOfOthers() {
        runs.run("promise 15: false if one is not there, or static, and for others", Runs.interfaces(1, 1)
            + Runs.chain(2, 3) + Runs.classes(4, 4) + """
            implement(2, 1) = 1
            overrides(3, 2, 0) = false
            overrides(3, 3, 0) = false      // no method at all
            method(3, 0, 3, 0) = 0
            overrides(3, 3, 0) = true
            overrides(3, 2, 0) = false      // the other's is not there
            method(2, 0, 3, 0) = 0
            overrides(3, 2, 0) = true
            overrides(2, 3, 0) = false      // the other way round
            overrides(3, 2, 1..3) = false
            untell(3, 1, 0) = 0
            overrides(3, 2, 0) = false      // the class's is not there
            method(3, 0, 3, 1) = 0
            overrides(3, 2, 0) = false      // static
            overrides(3, 3, 0) = false
            method(3, 0, 3, 0) = 0
            method(2, 0, 3, 1) = 0
            overrides(3, 2, 0) = false      // the other's is static
            overrides(2, 2, 0) = false
            method(2, 0, 3, 0) = 0
            method(4, 0, 3, 0) = 0
            overrides(4, 2..3, 0) = false   // beside it
            overrides(2..3, 4, 0) = false
            overrides(4, 4, 0) = true
            overrides(3, 2, -1) = false
            overrides(3, 2, 4) = false
            overrides(3, 2, FAR) = false
            overrides(3, 3, FAR) = false
            overrides(0, 2, 0) = false
            overrides(-1, 2, 0) = false
            overrides(5, 2, 0) = false
            overrides(FAR, 2, 0) = false
            overrides(3, 0, 0) = false
            overrides(3, -1, 0) = false
            overrides(3, 5, 0) = false
            overrides(3, FAR, 0) = false
            overrides(0, 0, 0) = false
            overrides(5, 5, 0) = false
            overrides(FAR, FAR, 0) = false
            """);
    }

    private static void overridesByAccess(int form) {
        for (int r = 0; r <= 3; r++) {
            for (int inPackage = 0; inPackage <= 1; inPackage++) {
                StringBuilder rows = new StringBuilder("tellClass(0, 0, true, false) = 1\n"
                    + "tellClass(1, " + inPackage + ", true, false) = 2\n" + "method(1, 0, " + r + ", 0) = 0\n"
                    + "overrides(1, 1, 0) = true\n");
                for (int m = form == 2 ? 1 : 0; m <= 3; m++) {
                    boolean want = m != 0 && (r >= 2 || r == 1 && inPackage == 0);
                    rows.append("method(2, 0, " + m + ", " + form + ") = 0\n");
                    rows.append("overrides(2, 1, 0) = " + want + "\n");
                    rows.append("overrides(2, 2, 0) = true\n");
                    rows.append("overrides(1, 2, 0) = false\n");
                }
                runs.run("promise 15: over a method of the access " + r, rows.toString());
            }
        }
    }

    private static void overridesOverAClassBetween() {
        runs.run("promise 15: r is of the package, by a class behind C and before A", """
            tellClass(0, 0, true, false) = 1
            tellClass(1, 0, true, false) = 2
            tellClass(2, 1, true, false) = 3
            tellClass(3, 2, true, false) = 4
            method(1, 0, 1, 0) = 0
            method(3..4, 0, 3, 0) = 0
            overrides(3..4, 1, 0) = false   // no class between that can
            method(2, 0, 3, 0) = 0
            overrides(2..4, 1, 0) = true
            method(2, 0, 2, 2) = 0
            overrides(2..4, 1, 0) = true
            method(2, 0, 1, 0) = 0
            overrides(2, 1, 0) = true
            overrides(3..4, 1, 0) = false   // it can, but is not overridden itself
            method(2, 0, 0, 0) = 0
            overrides(3..4, 1, 0) = false   // private
            method(2, 0, 3, 1) = 0
            overrides(3..4, 1, 0) = false   // static
            method(2, 1, 3, 0) = 0
            untell(2, 1, 0) = 0
            overrides(3..4, 1, 0) = false   // of another name
            method(2, 0, 3, 0) = 0
            method(3, 0, 1, 0) = 0
            overrides(3..4, 1, 0) = true    // 4 by 2, not by 3
            overrides(4, 3, 0) = false
            method(4, 0, 0, 0) = 0
            overrides(4, 1..3, 0) = false   // m is private
            """);
        runs.run("promise 15: over several classes between", """
            tellClass(0, 0, true, false) = 1
            tellClass(1, 0, true, false) = 2
            tellClass(2, 1, true, false) = 3
            tellClass(3, 2, true, false) = 4
            tellClass(0, 0, true, false) = 5
            method(1, 0, 1, 0) = 0
            method(2, 0, 2, 0) = 0
            method(3, 0, 3, 0) = 0
            method(4, 0, 1, 0) = 0
            method(5, 0, 3, 0) = 0
            overrides(4, 1..4, 0) = true
            overrides(4, 5, 0) = false
            overrides(5, 1..4, 0) = false
            """);
    }

    private static void overridesAnInterface() {
        runs.run("promise 15: a class's method over an interface's; in all cases C IS A A", Runs.interfaces(1, 2)
            + """
            tellClass(0, 1, true, false) = 3
            tellClass(3, 2, true, false) = 4
            implement(2, 1) = 1
            implement(4, 2) = 1
            method(1, 0, 3, 2) = 0
            method(2, 0, 3, 0) = 0
            method(3..4, 0, 3, 0) = 0
            overrides(4, 1..2, 0) = true
            overrides(3, 1..2, 0) = false   // 3 IS not A 1
            overrides(2, 1, 0) = false      // an interface is no class
            overrides(1, 1, 0) = false
            overrides(2, 2, 0) = false
            method(4, 0, 1, 0) = 0
            overrides(4, 1..2, 0) = true
            method(4, 0, 0, 0) = 0
            overrides(4, 1..2, 0) = false
            method(4, 0, 3, 0) = 0
            method(1, 0, 0, 0) = 0
            overrides(4, 1, 0) = false      // a private one
            method(1, 0, 3, 1) = 0
            overrides(4, 1, 0) = false      // a static one
            implement(3, 2) = 1
            overrides(3, 2, 0) = true
            """);
    }

    private static void maximal() {
        runs.run("promise 16: the sum of 2 to the power of their numbers; REFUSED for others", Runs.interfaces(1, 11)
            + Runs.classes(12, 12) + """
            implement(12, 1) = 1
            implement(12, 11) = 2
            implement(11, 10) = 1
            maximal(12, 0..3) = 0
            maximal(1, 0) = 0
            method(11, 3, 3, 2) = 0
            maximal(12, 3) = 2048
            maximal(11, 3) = 0             // its own does not count
            method(1, 3, 3, 0) = 0
            maximal(12, 3) = 2050
            method(10, 3, 3, 0) = 0
            maximal(12, 3) = 2050          // hidden by that of 11
            maximal(11, 3) = 1024
            maximal(12, 0..2) = 0
            maximal(12, -1) = REFUSED
            maximal(12, 4) = REFUSED
            maximal(12, FAR) = REFUSED
            maximal(0, 3) = REFUSED
            maximal(-1, 3) = REFUSED
            maximal(13, 3) = REFUSED
            maximal(FAR, 3) = REFUSED
            maximal(FAR, FAR) = REFUSED
            """);
    }

    private static void typeOfAClass() {
        runs.run("promise 17: of a class", """
            tellInterface(0, true) = 1
            tellInterface(0, true) = 2
            tellInterface(0, true) = 3
            tellInterface(0, true) = 4
            tellClass(0, 2, true, false) = 5
            tellClass(5, 2, true, false) = 6
            type(6, 0) = 5
            type(5, 0) = 0                 // none
            type(6, 1) = 2
            type(6, 2) = 6
            nest(6, 5) = 0
            type(6, 2) = 5
            type(6, 3..7) = 0              // none
            type(6, 8) = 1
            type(5, 8) = 0
            type(6, 9) = 0
            implement(6, 3) = 1
            type(6, 3) = 1
            type(6, 4) = 3
            type(6, 5..7) = 0
            implement(6, 4) = 2
            implement(6, 1) = 3
            type(6, 3) = 3
            type(6, 6) = 1
            type(6, 7) = 0
            implement(6, 2) = 4
            type(6, 3) = 4
            type(6, 4) = 3
            type(6, 5) = 4
            type(6, 6) = 1
            type(6, 7) = 2
            type(6, 8) = 5
            type(5, 3..8) = 0
            """);
    }

    private static void typeOfAnInterface() {
        runs.run("promise 17: of an interface", """
            tellInterface(1, true) = 1
            tellInterface(2, false) = 2
            type(2, 0) = 0
            type(2, 1) = 2
            type(2, 2) = 2
            type(2, 3..8) = 0
            type(2, 9) = 1
            implement(2, 1) = 1
            type(2, 0) = 0                 // a superinterface is no superclass
            type(2, 3) = 1
            type(2, 4) = 1
            type(2, 5..7) = 0
            type(2, 8) = 1
            type(1, 8) = 0
            """);
    }

    private static void typeOfOthers() {
        runs.run("promise 17: REFUSED for others", Runs.chain(1, 2) + """
            type(1, 0) = 0
            type(2, 9) = 0
            type(1..2, -1) = REFUSED
            type(1..2, 10) = REFUSED
            type(1..2, FAR) = REFUSED
            type(0, 0..9) = REFUSED
            type(-1, 0..9) = REFUSED
            type(3, 0..9) = REFUSED
            type(FAR, 0) = REFUSED
            type(FAR, 9) = REFUSED
            type(FAR, FAR) = REFUSED
            """);
        runs.run("promise 17: REFUSED beside a full world", Runs.chain(1, 12) + """
            type(12, 0) = 11
            type(12, 8) = 11
            type(12, 7) = 0
            type(12, -1) = REFUSED
            type(12, 10) = REFUSED
            type(13, 0..9) = REFUSED
            """);
    }
}
