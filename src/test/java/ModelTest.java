import java.util.Random;
import java.util.TreeMap;

/** All promises: seeded runs of 512 calls at the most, each answer compared with the one of the Model. */
public final class ModelTest {
    private static final int RUNS = 4000;
    private static final int CALLS = 512;
    private static final Due due = new Due("ModelTest");
    private static final TreeMap<String, Integer> seen = new TreeMap<>();

    private final Random random;
    private final MemberOracle oracle = new MemberOracle();
    private final Model model = new Model();
    private final int run;
    private final int names;
    private final int packages;
    private final int interfaces;
    private final int abstracts;
    private int calls = 0;
    private int told = 0;

    private ModelTest(int run) {
        this.run = run;
        random = new Random(run);
        names = 1 + random.nextInt(4);
        packages = 1 + random.nextInt(3);
        interfaces = 10 + random.nextInt(70);
        abstracts = random.nextInt(70);
    }

    public static void main(String[] args) {
        for (int run = 1; run <= RUNS && due.wrong() < 20; run++) {
            new ModelTest(run).play();
        }
        everyAnswerWasSeen();
        due.end();
    }

    private void play() {
        int types = 3 + random.nextInt(10);
        while (told < types && calls < 40) {
            tell();
        }
        int links = random.nextInt(90);
        for (int i = 0; i < links; i++) {
            link();
        }
        int members = random.nextInt(50);
        for (int i = 0; i < members; i++) {
            change();
        }
        while (calls < CALLS - 1) {
            int dice = random.nextInt(100);
            if (dice < 2) {
                tell();
            } else if (dice < 30) {
                change();
            } else {
                ask();
            }
        }
    }

    /** Mostly a number from least to greatest, now and then one near them, or far off. */
    private int number(int least, int greatest) {
        int dice = random.nextInt(150);
        if (dice == 0) {
            return least - 1;
        }
        if (dice == 1) {
            return greatest + 1;
        }
        if (dice == 2) {
            return random.nextInt();
        }
        return least + random.nextInt(Math.max(1, greatest - least + 1));
    }

    private int aType() {
        return number(1, told);
    }

    /** One of a few tries that is a class, the last try if none is. */
    private int aClass() {
        int type = aType();
        for (int i = 0; i < 6 && model.type(type, 9) != 0; i++) {
            type = aType();
        }
        return type;
    }

    /** Likewise a class below the type. */
    private int aClassBelow(int type) {
        int below = aClass();
        for (int i = 0; i < 6 && !model.isA(below, type); i++) {
            below = aClass();
        }
        return below;
    }

    private int aName() {
        return number(0, names - 1);
    }

    private int anAccess() {
        int access = number(0, 4);
        return access == 4 ? 3 : access;
    }

    private boolean chance(int percent) {
        return random.nextInt(100) < percent;
    }

    private void same(String call, int got, int want) {
        calls++;
        String method = call.split("[( ]")[0];
        seen.merge(method + " " + (got > 0 ? "+" : String.valueOf(got)), 1, Integer::sum);
        due.is("run " + run + ", call " + calls + ": " + call, got, want);
    }

    private void tell() {
        int inPackage = number(0, packages - 1);
        boolean isPublic = chance(85);
        if (chance(interfaces)) {
            String call = "tellInterface(" + inPackage + ", " + isPublic + ")";
            same(call, oracle.tellInterface(inPackage, isPublic), model.tellInterface(inPackage, isPublic));
        } else {
            int above = chance(15) ? 0 : aClass();
            boolean isFinal = chance(3);
            String call = "tellClass(" + above + ", " + inPackage + ", " + isPublic + ", " + isFinal + ")";
            same(call, oracle.tellClass(above, inPackage, isPublic, isFinal),
                model.tellClass(above, inPackage, isPublic, isFinal));
        }
        while (model.type(told + 1, 0) != Model.REFUSED) {
            told++;
        }
    }

    private void link() {
        int type = aType();
        int other = chance(80) ? number(1, type - 1) : aType();
        same("implement(" + type + ", " + other + ")", oracle.implement(type, other), model.implement(type, other));
    }

    private void change() {
        int type = aType();
        int name = aName();
        int dice = random.nextInt(100);
        if (dice < 20) {
            link();
        } else if (dice < 25) {
            int host = aType();
            same("nest(" + type + ", " + host + ")", oracle.nest(type, host), model.nest(type, host));
        } else if (dice < 38) {
            int access = anAccess();
            boolean isStatic = chance(60);
            same("field(" + type + ", " + name + ", " + access + ", " + isStatic + ")",
                oracle.field(type, name, access, isStatic), model.field(type, name, access, isStatic));
        } else if (dice < 90) {
            int access = anAccess();
            int form = chance(abstracts) ? 2 : chance(75) ? 0 : number(0, 2);
            same("method(" + type + ", " + name + ", " + access + ", " + form + ")",
                oracle.method(type, name, access, form), model.method(type, name, access, form));
        } else {
            int kind = number(0, 1);
            same("untell(" + type + ", " + kind + ", " + name + ")",
                oracle.untell(type, kind, name), model.untell(type, kind, name));
        }
    }

    private void ask() {
        int type = aType();
        int other = aType();
        int name = aName();
        switch (random.nextInt(10)) {
            case 0: {
                same("isA(" + type + ", " + other + ")", oracle.isA(type, other) ? 1 : 0, model.isA(type, other) ? 1 : 0);
                break;
            }
            case 1: {
                same("mates(" + type + ", " + other + ")",
                    oracle.mates(type, other) ? 1 : 0, model.mates(type, other) ? 1 : 0);
                break;
            }
            case 2: {
                int what = number(0, 9);
                same("type(" + type + ", " + what + ")", oracle.type(type, what), model.type(type, what));
                break;
            }
            case 3: {
                same("maximal(" + type + ", " + name + ")", oracle.maximal(type, name), model.maximal(type, name));
                break;
            }
            case 4: {
                type = chance(50) ? aClassBelow(other) : type;
                same("overrides(" + type + ", " + other + ", " + name + ")",
                    oracle.overrides(type, other, name) ? 1 : 0, model.overrides(type, other, name) ? 1 : 0);
                break;
            }
            case 5: {
                boolean asStatic = chance(50);
                same("use(" + type + ", " + other + ", " + name + ", " + asStatic + ")",
                    oracle.use(type, other, name, asStatic), model.use(type, other, name, asStatic));
                break;
            }
            case 6: {
                int kind = number(0, 2);
                same("resolve(" + kind + ", " + type + ", " + other + ", " + name + ")",
                    oracle.resolve(kind, type, other, name), model.resolve(kind, type, other, name));
                break;
            }
            default: {
                askInvoke(type, other, name);
                break;
            }
        }
        same("choices()", oracle.choices(), model.choices());
    }

    private void askInvoke(int type, int anywhere, int name) {
        int kind = number(0, 3);
        int receiver = kind >= 2 && chance(95) ? 0 : chance(80) ? aClassBelow(type) : aType();
        int from = kind == 2 && chance(60) ? aClassBelow(type) : anywhere;
        String label = kind >= 0 && kind <= 3 ? "invoke" + kind : "invoke in the kind " + kind;
        same(label + "(" + type + ", " + from + ", " + name + ", " + receiver + ")",
            oracle.invoke(kind, type, from, name, receiver), model.invoke(kind, type, from, name, receiver));
    }

    /** The runs are of no use where they do not come to every answer that a call can have. */
    private static void everyAnswerWasSeen() {
        String[] calls = {"tellClass + -1 -2", "tellInterface + -1 -2", "implement + -1 -2", "nest 0 -1", "field 0 -1",
            "method 0 -1", "untell 0 -1", "resolve + -1 -3 -4 -5 -6", "choices 0 +", "use + -1 -3 -5 -6",
            "invoke0 + -1 -4 -5 -6 -7", "invoke1 + -1 -4 -5 -6 -7", "invoke2 + -1 -4 -5 -6 -7", "invoke3 + -1 -4 -5 -6",
            "isA 0 +", "mates 0 +", "overrides 0 +", "maximal 0 + -1", "type 0 + -1"};
        for (String row : calls) {
            String[] parts = row.split(" ");
            for (int i = 1; i < parts.length; i++) {
                String key = parts[0] + " " + parts[i];
                due.is("seen: " + key, seen.getOrDefault(key, 0) > 100, true);
            }
        }
    }
}
