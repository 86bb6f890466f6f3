import java.util.ArrayList;
import java.util.List;
import java.util.Set;
import java.util.TreeSet;

/** The document's terms written down word by word, with no thought of speed: what ModelTest compares with. */
final class Model {
    static final int REFUSED = -1;
    static final int FULL = -2;
    static final int NO_FIELD = -3;
    static final int NO_METHOD = -4;
    static final int ACCESS = -5;
    static final int CHANGE = -6;
    static final int ABSTRACT = -7;

    private static final class Member {
        final Type in;
        final int access;
        final boolean isStatic;
        final boolean isAbstract;

        Member(Type in, int access, boolean isStatic, boolean isAbstract) {
            this.in = in;
            this.access = access;
            this.isStatic = isStatic;
            this.isAbstract = isAbstract;
        }

        boolean isPrivate() {
            return access == 0;
        }
    }

    private static final class Type implements Comparable<Type> {
        int number;
        boolean isInterface;
        boolean isPublic;
        boolean isFinal;
        int inPackage;
        Type superclass;
        Type host;
        final List<Type> interfaces = new ArrayList<>();
        final Member[] fields = new Member[4];
        final Member[] methods = new Member[4];

        @Override
        public int compareTo(Type other) {
            return Integer.compare(number, other.number);
        }
    }

    /** What resolving, selecting or invoking comes to: a member, or an error. */
    private static final class Outcome {
        final Member member;
        final int error;

        Outcome(Member member, int error) {
            this.member = member;
            this.error = error;
        }

        int answer() {
            return member == null ? error : member.in.number;
        }
    }

    private final List<Type> types = new ArrayList<>();
    private int choices = 0;

    private static Outcome error(int code) {
        return new Outcome(null, code);
    }

    private static Outcome found(Member member) {
        return new Outcome(member, 0);
    }

    private Type at(int number) {
        return number < 1 || number > types.size() ? null : types.get(number - 1);
    }

    private static boolean bad(int n, int greatest) {
        return n < 0 || n > greatest;
    }

    int tellClass(int superclass, int inPackage, boolean isPublic, boolean isFinal) {
        Type above = at(superclass);
        if (superclass != 0 && (above == null || above.isInterface || above.isFinal) || bad(inPackage, 2)) {
            return REFUSED;
        }
        return add(false, above, inPackage, isPublic, isFinal);
    }

    int tellInterface(int inPackage, boolean isPublic) {
        return bad(inPackage, 2) ? REFUSED : add(true, null, inPackage, isPublic, false);
    }

    private int add(boolean isInterface, Type above, int inPackage, boolean isPublic, boolean isFinal) {
        if (types.size() == 12) {
            return FULL;
        }
        Type type = new Type();
        type.number = types.size() + 1;
        type.isInterface = isInterface;
        type.isPublic = isPublic;
        type.isFinal = isFinal;
        type.inPackage = inPackage;
        type.superclass = above;
        type.host = type;
        types.add(type);
        return type.number;
    }

    int implement(int type, int other) {
        Type t = at(type);
        Type o = at(other);
        if (t == null || o == null || !o.isInterface || other >= type || t.interfaces.contains(o)) {
            return REFUSED;
        }
        if (t.interfaces.size() == 4) {
            return FULL;
        }
        t.interfaces.add(o);
        return t.interfaces.size();
    }

    int nest(int type, int host) {
        Type t = at(type);
        Type h = at(host);
        if (t == null || h == null || t.inPackage != h.inPackage || host > type || h.host != h) {
            return REFUSED;
        }
        for (Type other : types) {
            if (other != t && other.host == t) {
                return REFUSED;
            }
        }
        t.host = h;
        return 0;
    }

    int field(int type, int name, int access, boolean isStatic) {
        Type t = at(type);
        if (t == null || bad(name, 3) || bad(access, 3) || t.isInterface && (access != 3 || !isStatic)) {
            return REFUSED;
        }
        t.fields[name] = new Member(t, access, isStatic, false);
        return 0;
    }

    int method(int type, int name, int access, int form) {
        Type t = at(type);
        if (t == null || bad(name, 3) || bad(access, 3) || bad(form, 2)) {
            return REFUSED;
        }
        if (t.isInterface && (access == 1 || access == 2) || form == 2 && access == 0) {
            return REFUSED;
        }
        t.methods[name] = new Member(t, access, form == 1, form == 2);
        return 0;
    }

    int untell(int type, int kind, int name) {
        Type t = at(type);
        if (t == null || bad(kind, 1) || bad(name, 3)) {
            return REFUSED;
        }
        Member[] members = kind == 0 ? t.fields : t.methods;
        if (members[name] == null) {
            return REFUSED;
        }
        members[name] = null;
        return 0;
    }

    private static Set<Type> supertypes(Type type) {
        Set<Type> set = new TreeSet<>();
        if (type.superclass != null) {
            set.add(type.superclass);
            set.addAll(supertypes(type.superclass));
        }
        for (Type i : type.interfaces) {
            set.add(i);
            set.addAll(supertypes(i));
        }
        return set;
    }

    private static boolean is(Type type, Type other) {
        return type == other || supertypes(type).contains(other);
    }

    private static List<Type> chain(Type type) {
        List<Type> list = new ArrayList<>();
        for (Type t = type; t != null; t = t.superclass) {
            list.add(t);
        }
        return list;
    }

    private static boolean mayBeUsed(Member member, Type from) {
        boolean samePackage = member.in.inPackage == from.inPackage;
        return member.access == 3
            || member.access == 2 && (samePackage || is(from, member.in))
            || member.access == 1 && samePackage
            || member.access == 0 && member.in.host == from.host;
    }

    private static boolean mayBeUsed(Type type, Type from) {
        return type.isPublic || type.inPackage == from.inPackage;
    }

    /** In the order of the numbers of their types. */
    private static List<Member> inInterfaces(Type type, int name) {
        List<Member> list = new ArrayList<>();
        for (Type t : supertypes(type)) {
            Member m = t.methods[name];
            if (t.isInterface && m != null && !m.isPrivate() && !m.isStatic) {
                list.add(m);
            }
        }
        return list;
    }

    private static List<Member> maximalOnes(Type type, int name) {
        List<Member> all = inInterfaces(type, name);
        List<Member> list = new ArrayList<>();
        for (Member i : all) {
            boolean hidden = false;
            for (Member j : all) {
                hidden = hidden || j != i && is(j.in, i.in);
            }
            if (!hidden) {
                list.add(i);
            }
        }
        return list;
    }

    private static Outcome oneOfMaximal(Type type, int name) {
        List<Member> concrete = new ArrayList<>();
        for (Member m : maximalOnes(type, name)) {
            if (!m.isAbstract) {
                concrete.add(m);
            }
        }
        if (concrete.size() == 1) {
            return found(concrete.get(0));
        }
        return error(concrete.isEmpty() ? ABSTRACT : CHANGE);
    }

    private static Member searchField(Type type, int name) {
        if (type.fields[name] != null) {
            return type.fields[name];
        }
        for (Type i : type.interfaces) {
            Member m = searchField(i, name);
            if (m != null) {
                return m;
            }
        }
        return type.superclass == null ? null : searchField(type.superclass, name);
    }

    /** Sets howMany[0] to CHOICES. */
    private static Outcome resolved(int kind, Type from, Type type, int name, int[] howMany) {
        howMany[0] = 0;
        if (!mayBeUsed(type, from)) {
            return error(ACCESS);
        }
        Member m = null;
        int ways = 1;
        if (kind == 0) {
            m = searchField(type, name);
        } else {
            if (type.isInterface != (kind == 2)) {
                return error(CHANGE);
            }
            for (Type t : kind == 1 ? chain(type) : List.of(type)) {
                m = m == null ? t.methods[name] : m;
            }
            m = m == null ? oneOfMaximal(type, name).member : m;
            List<Member> any = inInterfaces(type, name);
            if (m == null && !any.isEmpty()) {
                m = any.get(0);
                ways = any.size();
            }
        }
        if (m == null) {
            return error(kind == 0 ? NO_FIELD : NO_METHOD);
        }
        howMany[0] = ways;
        return mayBeUsed(m, from) ? found(m) : error(ACCESS);
    }

    private Outcome resolvedForCall(int kind, Type from, Type type, int name) {
        int[] howMany = new int[1];
        Outcome outcome = resolved(kind, from, type, name, howMany);
        choices = howMany[0];
        return outcome;
    }

    int resolve(int kind, int from, int type, int name) {
        if (bad(kind, 2) || at(from) == null || at(type) == null || bad(name, 3)) {
            return REFUSED;
        }
        return resolvedForCall(kind, at(from), at(type), name).answer();
    }

    int choices() {
        return choices;
    }

    int use(int from, int type, int name, boolean asStatic) {
        if (at(from) == null || at(type) == null || bad(name, 3)) {
            return REFUSED;
        }
        Outcome outcome = resolved(0, at(from), at(type), name, new int[1]);
        return outcome.member != null && outcome.member.isStatic != asStatic ? CHANGE : outcome.answer();
    }

    private static boolean canOverride(Member m, Member r, int name) {
        if (m.isStatic || r.isStatic || !is(m.in, r.in)) {
            return false;
        }
        if (m == r) {
            return true;
        }
        if (m.isPrivate() || r.isPrivate()) {
            return false;
        }
        if (r.access == 3 || r.access == 2 || m.in.inPackage == r.in.inPackage) {
            return true;
        }
        List<Type> chain = chain(m.in);
        for (int i = 1; i < chain.indexOf(r.in); i++) {
            Member b = chain.get(i).methods[name];
            if (b != null && !b.isStatic && canOverride(b, r, name) && canOverride(m, b, name)) {
                return true;
            }
        }
        return false;
    }

    private static Outcome selected(Type receiver, Member r, int name) {
        if (r.isPrivate()) {
            return found(r);
        }
        for (Type t : chain(receiver)) {
            Member m = t.methods[name];
            if (m != null && !m.isStatic && canOverride(m, r, name)) {
                return found(m);
            }
        }
        return oneOfMaximal(receiver, name);
    }

    int invoke(int kind, int type, int from, int name, int receiver) {
        Type c = at(type);
        Type d = at(from);
        Type r = at(receiver);
        if (bad(kind, 3) || c == null || d == null || bad(name, 3)) {
            return REFUSED;
        }
        if (kind <= 1 && (r == null || r.isInterface) || kind == 0 && !is(r, c)) {
            return REFUSED;
        }
        if (kind >= 2 && receiver != 0 || kind == 2 && c != d && !supertypes(d).contains(c)) {
            return REFUSED;
        }
        int reference = kind == 0 ? 1 : kind == 1 ? 2 : c.isInterface ? 2 : 1;
        Outcome outcome = resolvedForCall(reference, d, c, name);
        if (outcome.member == null) {
            return outcome.error;
        }
        if (outcome.member.isStatic != (kind == 3)) {
            return CHANGE;
        }
        return kind == 3 ? outcome.answer() : run(kind, c, d, name, r, outcome.member);
    }

    private static int run(int kind, Type c, Type d, int name, Type r, Member resolved) {
        if (kind == 1 && !is(r, resolved.in)) {
            return CHANGE;
        }
        Outcome outcome = kind == 2 ? special(c, d, name) : selected(r, resolved, name);
        Member m = outcome.member;
        if (m != null && kind == 1 && m.access != 3 && m.access != 0) {
            return ACCESS;
        }
        return m != null && m.isAbstract ? ABSTRACT : outcome.answer();
    }

    private static Outcome special(Type c, Type d, int name) {
        Type s = !d.isInterface && !c.isInterface && c != d && is(d, c) ? d.superclass : c;
        for (Type t : s.isInterface ? List.of(s) : chain(s)) {
            if (t.methods[name] != null && !t.methods[name].isStatic) {
                return found(t.methods[name]);
            }
        }
        return oneOfMaximal(s, name);
    }

    boolean isA(int type, int other) {
        return at(type) != null && at(other) != null && is(at(type), at(other));
    }

    boolean mates(int a, int b) {
        return at(a) != null && at(b) != null && at(a).host == at(b).host;
    }

    boolean overrides(int type, int other, int name) {
        Type t = at(type);
        Type o = at(other);
        if (t == null || o == null || t.isInterface || bad(name, 3)) {
            return false;
        }
        return t.methods[name] != null && o.methods[name] != null && canOverride(t.methods[name], o.methods[name], name);
    }

    int maximal(int type, int name) {
        if (at(type) == null || bad(name, 3)) {
            return REFUSED;
        }
        int sum = 0;
        for (Member m : maximalOnes(at(type), name)) {
            sum += 1 << m.in.number;
        }
        return sum;
    }

    int type(int type, int what) {
        Type t = at(type);
        if (t == null || bad(what, 9)) {
            return REFUSED;
        }
        switch (what) {
            case 0: return t.superclass == null ? 0 : t.superclass.number;
            case 1: return t.inPackage;
            case 2: return t.host.number;
            case 3: return t.interfaces.size();
            case 8: return supertypes(t).size();
            case 9: return t.isInterface ? 1 : 0;
            default: return what - 4 < t.interfaces.size() ? t.interfaces.get(what - 4).number : 0;
        }
    }
}
