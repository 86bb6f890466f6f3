/**
 * The oracle of a linkage kit: types and their members are told piece by piece, and it says what a
 * reference to a field or a method resolves to, whether it may be used, and which method is selected.
 *
 * <p>A set of types is an int here: bit n stands for the type n, which is also how maximal answers.
 * Every supertype has a lesser number than its subtypes, so loops over numbers need no visited marks.
 */
public final class MemberOracle {
    public static final int REFUSED = -1;
    public static final int FULL = -2;
    public static final int NO_FIELD = -3;
    public static final int NO_METHOD = -4;
    public static final int ACCESS = -5;
    public static final int CHANGE = -6;
    public static final int ABSTRACT = -7;

    private static final int MOST_TYPES = 12;
    private static final int MOST_DIRECT = 4;
    private static final int PACKAGES = 3;
    private static final int NAMES = 4;
    private static final int NONE = 0;

    private static final int ACCESS_PRIVATE = 0;
    private static final int ACCESS_PACKAGE = 1;
    private static final int ACCESS_PROTECTED = 2;
    private static final int ACCESS_PUBLIC = 3;

    private static final int FORM_PLAIN = 0;
    private static final int FORM_STATIC = 1;
    private static final int FORM_ABSTRACT = 2;

    private static final int REFERENCE_FIELD = 0;
    private static final int REFERENCE_METHOD = 1;
    private static final int REFERENCE_INTERFACE_METHOD = 2;

    private static final int INVOKE_VIRTUAL = 0;
    private static final int INVOKE_INTERFACE = 1;
    private static final int INVOKE_SPECIAL = 2;
    private static final int INVOKE_STATIC = 3;

    private final World world;
    private final Members fields;
    private final Members methods;
    private int lastChoices;

    public MemberOracle() {
        world = new World();
        fields = new Members();
        methods = new Members();
        lastChoices = 0;
    }

    public int tellClass(int superclass, int inPackage, boolean isPublic, boolean isFinal) {
        if (!isPackage(inPackage)) {
            return REFUSED;
        }
        if (superclass != NONE && !world.mayBeExtended(superclass)) {
            return REFUSED;
        }
        if (world.isFull()) {
            return FULL;
        }
        return world.addClass(superclass, inPackage, isPublic, isFinal);
    }

    public int tellInterface(int inPackage, boolean isPublic) {
        if (!isPackage(inPackage)) {
            return REFUSED;
        }
        if (world.isFull()) {
            return FULL;
        }
        return world.addInterface(inPackage, isPublic);
    }

    public int implement(int type, int other) {
        if (!world.has(type) || !world.isInterface(other) || other >= type) {
            return REFUSED;
        }
        if (world.hasDirect(type, other)) {
            return REFUSED;
        }
        if (world.directCount(type) >= MOST_DIRECT) {
            return FULL;
        }
        return world.addDirect(type, other);
    }

    public int nest(int type, int host) {
        if (!world.has(type) || !world.has(host) || host > type) {
            return REFUSED;
        }
        if (!world.samePackage(type, host) || world.hostOf(host) != host || world.hostsAnother(type)) {
            return REFUSED;
        }
        world.setHost(type, host);
        return 0;
    }

    public int field(int type, int name, int access, boolean isStatic) {
        if (!world.has(type) || !isName(name) || !isAccess(access)) {
            return REFUSED;
        }
        if (world.isInterface(type) && (access != ACCESS_PUBLIC || !isStatic)) {
            return REFUSED;
        }
        fields.put(type, name, access, isStatic ? FORM_STATIC : FORM_PLAIN);
        return 0;
    }

    public int method(int type, int name, int access, int form) {
        if (!world.has(type) || !isName(name) || !isAccess(access) || !isForm(form)) {
            return REFUSED;
        }
        if (world.isInterface(type) && access != ACCESS_PUBLIC && access != ACCESS_PRIVATE) {
            return REFUSED;
        }
        if (form == FORM_ABSTRACT && access == ACCESS_PRIVATE) {
            return REFUSED;
        }
        methods.put(type, name, access, form);
        return 0;
    }

    public int untell(int type, int kind, int name) {
        if (!world.has(type) || !isName(name)) {
            return REFUSED;
        }
        if (kind != REFERENCE_FIELD && kind != REFERENCE_METHOD) {
            return REFUSED;
        }
        Members members = kind == REFERENCE_FIELD ? fields : methods;
        if (!members.has(type, name)) {
            return REFUSED;
        }
        members.drop(type, name);
        return 0;
    }

    public int resolve(int kind, int from, int type, int name) {
        if (!world.has(from) || !world.has(type) || !isName(name)) {
            return REFUSED;
        }
        switch (kind) {
            case REFERENCE_FIELD:
                int found = findField(from, type, name);
                lastChoices = found > NONE ? 1 : 0;
                return admitted(fields, found, name, from);
            case REFERENCE_METHOD:
                return resolveMethod(false, from, type, name);
            case REFERENCE_INTERFACE_METHOD:
                return resolveMethod(true, from, type, name);
            default:
                return REFUSED;
        }
    }

    public int choices() {
        return lastChoices;
    }

    public int use(int from, int type, int name, boolean asStatic) {
        if (!world.has(from) || !world.has(type) || !isName(name)) {
            return REFUSED;
        }
        int resolved = admitted(fields, findField(from, type, name), name, from);
        if (resolved > NONE && fields.isStatic(resolved, name) != asStatic) {
            return CHANGE;
        }
        return resolved;
    }

    public int invoke(int kind, int type, int from, int name, int receiver) {
        if (!world.has(type) || !world.has(from) || !isName(name)) {
            return REFUSED;
        }
        if (!isReceiver(kind, type, from, receiver)) {
            return REFUSED;
        }
        switch (kind) {
            case INVOKE_VIRTUAL:
                return invokeVirtual(type, from, name, receiver);
            case INVOKE_INTERFACE:
                return invokeInterface(type, from, name, receiver);
            case INVOKE_SPECIAL:
                return invokeSpecial(type, from, name);
            default:
                return invokeStatic(type, from, name);
        }
    }

    public boolean isA(int type, int other) {
        return world.has(type) && world.has(other) && world.isKindOf(type, other);
    }

    public boolean mates(int a, int b) {
        return world.has(a) && world.has(b) && world.sameHost(a, b);
    }

    public boolean overrides(int type, int other, int name) {
        return world.isClass(type) && world.has(other) && isName(name) && canOverride(type, other, name);
    }

    public int maximal(int type, int name) {
        if (!world.has(type) || !isName(name)) {
            return REFUSED;
        }
        return maximalSet(type, name);
    }

    public int type(int type, int what) {
        if (!world.has(type)) {
            return REFUSED;
        }
        switch (what) {
            case 0:
                return world.superclassOf(type);
            case 1:
                return world.packageOf(type);
            case 2:
                return world.hostOf(type);
            case 3:
                return world.directCount(type);
            case 4:
            case 5:
            case 6:
            case 7:
                return world.directAt(type, what - 4);
            case 8:
                return Integer.bitCount(world.supertypes(type));
            case 9:
                return world.isInterface(type) ? 1 : 0;
            default:
                return REFUSED;
        }
    }

    private static boolean isPackage(int number) {
        return number >= 0 && number < PACKAGES;
    }

    private static boolean isName(int name) {
        return name >= 0 && name < NAMES;
    }

    private static boolean isAccess(int access) {
        return access >= ACCESS_PRIVATE && access <= ACCESS_PUBLIC;
    }

    private static boolean isForm(int form) {
        return form >= FORM_PLAIN && form <= FORM_ABSTRACT;
    }

    /** Whether invoke takes the receiver, and for SPECIAL the place, in this kind; no other kind is taken. */
    private boolean isReceiver(int kind, int type, int from, int receiver) {
        switch (kind) {
            case INVOKE_VIRTUAL:
                return world.isClass(receiver) && world.isKindOf(receiver, type);
            case INVOKE_INTERFACE:
                return world.isClass(receiver);
            case INVOKE_SPECIAL:
                return receiver == NONE && world.isKindOf(from, type);
            case INVOKE_STATIC:
                return receiver == NONE;
            default:
                return false;
        }
    }

    /** The type whose field is found, or a code; whether that field may be used is not asked yet. */
    private int findField(int from, int type, int name) {
        if (!world.mayUseType(type, from)) {
            return ACCESS;
        }
        int found = world.search(type, fields.owners(name));
        return found == NONE ? NO_FIELD : found;
    }

    /** Resolves and sets the choices; by any, and so with many choices, only what is public is found. */
    private int resolveMethod(boolean inInterface, int from, int type, int name) {
        lastChoices = 0;
        if (!world.mayUseType(type, from)) {
            return ACCESS;
        }
        if (world.isInterface(type) != inInterface) {
            return CHANGE;
        }
        int found = greatestOf(world.chain(type) & methods.owners(name));
        if (found == NONE) {
            found = bestOfInterfaces(type, name);
        }
        if (found > NONE) {
            lastChoices = 1;
            return admitted(methods, found, name, from);
        }
        int any = interfaceMethods(type, name);
        lastChoices = Integer.bitCount(any);
        return any == 0 ? NO_METHOD : leastOf(any);
    }

    /** What was found, a type or a code, or ACCESS where the member found may not be used. */
    private int admitted(Members members, int found, int name, int from) {
        if (found <= NONE) {
            return found;
        }
        return mayUseMember(found, members.accessOf(found, name), from) ? found : ACCESS;
    }

    private boolean mayUseMember(int owner, int access, int from) {
        switch (access) {
            case ACCESS_PUBLIC:
                return true;
            case ACCESS_PROTECTED:
                return world.samePackage(owner, from) || world.isKindOf(from, owner);
            case ACCESS_PACKAGE:
                return world.samePackage(owner, from);
            default:
                return world.sameHost(owner, from);
        }
    }

    /** The interfaces among the supertypes with a method of the name, neither private nor static. */
    private int interfaceMethods(int type, int name) {
        return world.supertypes(type) & world.interfaces() & methods.inheritable(name);
    }

    private int maximalSet(int type, int name) {
        int all = interfaceMethods(type, name);
        int set = all;
        for (int t = 1; t <= MOST_TYPES; t++) {
            if (holds(all, t)) {
                set &= ~world.supertypes(t);
            }
        }
        return set;
    }

    /** The type of the one MAXIMAL method that is not abstract; CHANGE for several, ABSTRACT for none. */
    private int bestOfInterfaces(int type, int name) {
        int concrete = maximalSet(type, name) & ~methods.abstracts(name);
        switch (Integer.bitCount(concrete)) {
            case 0:
                return ABSTRACT;
            case 1:
                return leastOf(concrete);
            default:
                return CHANGE;
        }
    }

    /**
     * The document's rule leads from a method to what it overrides in steps that need no class between:
     * so the methods that reach the other one are gathered, from the other one down to the type.
     */
    private boolean canOverride(int type, int other, int name) {
        int instances = methods.instances(name);
        if (!holds(instances, other)) {
            return false;
        }
        int below = world.chain(type) & world.kindsOf(other) & instances;
        int reaching = 1 << other;
        for (int t = other + 1; t <= type; t++) {
            if (holds(below, t) && overridesOneOf(t, reaching, name)) {
                reaching |= 1 << t;
            }
        }
        return holds(reaching, type);
    }

    private boolean overridesOneOf(int type, int others, int name) {
        for (int t = 1; t < type; t++) {
            if (holds(others, t) && overridesAtOnce(type, t, name)) {
                return true;
            }
        }
        return false;
    }

    /** Whether it does so with no class between; that the type IS A other is for the caller to know. */
    private boolean overridesAtOnce(int type, int other, int name) {
        if (methods.accessOf(type, name) == ACCESS_PRIVATE) {
            return false;
        }
        switch (methods.accessOf(other, name)) {
            case ACCESS_PUBLIC:
            case ACCESS_PROTECTED:
                return true;
            case ACCESS_PACKAGE:
                return world.samePackage(type, other);
            default:
                return false;
        }
    }

    private int select(int receiver, int resolved, int name) {
        if (methods.accessOf(resolved, name) == ACCESS_PRIVATE) {
            return resolved;
        }
        int chain = world.chain(receiver);
        for (int t = receiver; t >= 1; t--) {
            if (holds(chain, t) && canOverride(t, resolved, name)) {
                return t;
            }
        }
        return bestOfInterfaces(receiver, name);
    }

    /** The type of the method to run, or a code: ABSTRACT where the method is abstract. */
    private int runnable(int selected, int name) {
        if (selected > NONE && holds(methods.abstracts(name), selected)) {
            return ABSTRACT;
        }
        return selected;
    }

    private int invokeVirtual(int type, int from, int name, int receiver) {
        int resolved = resolveMethod(false, from, type, name);
        if (resolved <= NONE) {
            return resolved;
        }
        if (methods.isStatic(resolved, name)) {
            return CHANGE;
        }
        return runnable(select(receiver, resolved, name), name);
    }

    private int invokeInterface(int type, int from, int name, int receiver) {
        int resolved = resolveMethod(true, from, type, name);
        if (resolved <= NONE) {
            return resolved;
        }
        if (methods.isStatic(resolved, name) || !world.isKindOf(receiver, resolved)) {
            return CHANGE;
        }
        int selected = select(receiver, resolved, name);
        if (selected <= NONE) {
            return selected;
        }
        int access = methods.accessOf(selected, name);
        if (access != ACCESS_PUBLIC && access != ACCESS_PRIVATE) {
            return ACCESS;
        }
        return runnable(selected, name);
    }

    private int invokeSpecial(int type, int from, int name) {
        int resolved = resolveMethod(world.isInterface(type), from, type, name);
        if (resolved <= NONE) {
            return resolved;
        }
        if (methods.isStatic(resolved, name)) {
            return CHANGE;
        }
        // invoke has seen to it that from IS A type, so a class other than from is above it.
        boolean fromAbove = world.isClass(type) && type != from;
        int start = fromAbove ? world.superclassOf(from) : type;
        int found = greatestOf(world.chain(start) & methods.instances(name));
        if (found == NONE) {
            found = bestOfInterfaces(start, name);
        }
        return runnable(found, name);
    }

    private int invokeStatic(int type, int from, int name) {
        int resolved = resolveMethod(world.isInterface(type), from, type, name);
        if (resolved > NONE && !methods.isStatic(resolved, name)) {
            return CHANGE;
        }
        return resolved;
    }

    private static boolean holds(int set, int type) {
        return (set & 1 << type) != 0;
    }

    private static int leastOf(int set) {
        for (int t = 1; t <= MOST_TYPES; t++) {
            if (holds(set, t)) {
                return t;
            }
        }
        return NONE;
    }

    private static int greatestOf(int set) {
        for (int t = MOST_TYPES; t >= 1; t--) {
            if (holds(set, t)) {
                return t;
            }
        }
        return NONE;
    }

    /** The types that were told; all but has, isClass, isInterface and mayBeExtended want told ones. */
    private static final class World {
        private final int[] superclasses;
        private final int[] packages;
        private final int[] hosts;
        private final int[] directCounts;
        private final int[] directs;
        // Of each type the set of itself and its supertypes; of the row NONE the empty set.
        private final int[] families;
        private int publicSet;
        private int finalSet;
        private int interfaceSet;
        private int count;

        World() {
            superclasses = new int[MOST_TYPES + 1];
            packages = new int[MOST_TYPES + 1];
            hosts = new int[MOST_TYPES + 1];
            directCounts = new int[MOST_TYPES + 1];
            directs = new int[(MOST_TYPES + 1) * MOST_DIRECT];
            families = new int[MOST_TYPES + 1];
            publicSet = 0;
            finalSet = 0;
            interfaceSet = 0;
            count = 0;
        }

        boolean has(int type) {
            return type >= 1 && type <= count;
        }

        boolean isFull() {
            return count >= MOST_TYPES;
        }

        boolean isInterface(int type) {
            return has(type) && holds(interfaceSet, type);
        }

        boolean isClass(int type) {
            return has(type) && !holds(interfaceSet, type);
        }

        boolean mayBeExtended(int type) {
            return isClass(type) && !holds(finalSet, type);
        }

        int addClass(int superclass, int inPackage, boolean isPublic, boolean isFinal) {
            int type = addType(superclass, inPackage, isPublic);
            if (isFinal) {
                finalSet |= 1 << type;
            }
            return type;
        }

        int addInterface(int inPackage, boolean isPublic) {
            int type = addType(NONE, inPackage, isPublic);
            interfaceSet |= 1 << type;
            return type;
        }

        private int addType(int superclass, int inPackage, boolean isPublic) {
            count++;
            superclasses[count] = superclass;
            packages[count] = inPackage;
            hosts[count] = count;
            families[count] = families[superclass] | 1 << count;
            if (isPublic) {
                publicSet |= 1 << count;
            }
            return count;
        }

        int addDirect(int type, int other) {
            directs[type * MOST_DIRECT + directCounts[type]] = other;
            directCounts[type]++;
            // What is told of a type holds at once for the types below it that were told before.
            for (int t = type; t <= count; t++) {
                if (holds(families[t], type)) {
                    families[t] |= families[other];
                }
            }
            return directCounts[type];
        }

        boolean hasDirect(int type, int other) {
            for (int i = 0; i < directCounts[type]; i++) {
                if (directAt(type, i) == other) {
                    return true;
                }
            }
            return false;
        }

        int directCount(int type) {
            return directCounts[type];
        }

        int directAt(int type, int i) {
            return directs[type * MOST_DIRECT + i];
        }

        int superclassOf(int type) {
            return superclasses[type];
        }

        int packageOf(int type) {
            return packages[type];
        }

        int hostOf(int type) {
            return hosts[type];
        }

        void setHost(int type, int host) {
            hosts[type] = host;
        }

        boolean hostsAnother(int type) {
            for (int t = 1; t <= count; t++) {
                if (t != type && hosts[t] == type) {
                    return true;
                }
            }
            return false;
        }

        boolean sameHost(int a, int b) {
            return hosts[a] == hosts[b];
        }

        boolean samePackage(int a, int b) {
            return packages[a] == packages[b];
        }

        boolean mayUseType(int type, int from) {
            return holds(publicSet, type) || samePackage(type, from);
        }

        boolean isKindOf(int type, int other) {
            return holds(families[type], other);
        }

        int supertypes(int type) {
            return families[type] & ~(1 << type);
        }

        int kindsOf(int type) {
            int set = 0;
            for (int t = type; t <= count; t++) {
                if (holds(families[t], type)) {
                    set |= 1 << t;
                }
            }
            return set;
        }

        int interfaces() {
            return interfaceSet;
        }

        /** The chain of a class; of an interface itself alone. The first in a chain has the greatest number. */
        int chain(int type) {
            return (families[type] & ~interfaceSet) | 1 << type;
        }

        /**
         * The first of the owners that the search of a field meets, or NONE: a part that holds no owner is
         * passed by unseen, so the way never turns back and is no longer than there are types.
         */
        int search(int type, int owners) {
            int at = type;
            for (int step = 0; step < MOST_TYPES && (families[at] & owners) != 0; step++) {
                if (holds(owners, at)) {
                    return at;
                }
                at = nextToSearch(at, owners);
            }
            return NONE;
        }

        private int nextToSearch(int type, int owners) {
            for (int i = 0; i < directCounts[type]; i++) {
                int direct = directAt(type, i);
                if ((families[direct] & owners) != 0) {
                    return direct;
                }
            }
            return superclasses[type];
        }
    }

    /** The fields or the methods of all types; accessOf means nothing where there is no member. */
    private static final class Members {
        private final int[] ownerSets;
        private final int[] staticSets;
        private final int[] abstractSets;
        private final int[] privateSets;
        private final int[] accesses;

        Members() {
            ownerSets = new int[NAMES];
            staticSets = new int[NAMES];
            abstractSets = new int[NAMES];
            privateSets = new int[NAMES];
            accesses = new int[(MOST_TYPES + 1) * NAMES];
        }

        void put(int type, int name, int access, int form) {
            drop(type, name);
            int bit = 1 << type;
            ownerSets[name] |= bit;
            if (form == FORM_STATIC) {
                staticSets[name] |= bit;
            }
            if (form == FORM_ABSTRACT) {
                abstractSets[name] |= bit;
            }
            if (access == ACCESS_PRIVATE) {
                privateSets[name] |= bit;
            }
            accesses[type * NAMES + name] = access;
        }

        void drop(int type, int name) {
            int others = ~(1 << type);
            ownerSets[name] &= others;
            staticSets[name] &= others;
            abstractSets[name] &= others;
            privateSets[name] &= others;
        }

        boolean has(int type, int name) {
            return holds(ownerSets[name], type);
        }

        boolean isStatic(int type, int name) {
            return holds(staticSets[name], type);
        }

        int accessOf(int type, int name) {
            return accesses[type * NAMES + name];
        }

        int owners(int name) {
            return ownerSets[name];
        }

        int abstracts(int name) {
            return abstractSets[name];
        }

        int instances(int name) {
            return ownerSets[name] & ~staticSets[name];
        }

        int inheritable(int name) {
            return ownerSets[name] & ~staticSets[name] & ~privateSets[name];
        }
    }
}
