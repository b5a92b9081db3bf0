import java.util.ArrayList;
import java.util.HashMap;
import java.util.LinkedHashSet;
import java.util.List;
import java.util.Map;
import java.util.Set;

/**
 * The document's sentences once more, as near to its words as can be and without any care for
 * speed: what AccessJudge answers is held against this in AgainstPlainTest.
 */
final class PlainJudge {
    static final int BAD = -1, NONE = -2, TWO = -3, FULL = -4;

    static final class Module {
        final Set<Module> reads = new LinkedHashSet<>();
    }

    static final class Pack {
        Module module;
        boolean toAll;
        final Set<Module> to = new LinkedHashSet<>();
    }

    static final class Type {
        int number;
        Pack pack;
        Type outer;
        boolean isInterface;
        int access;
        boolean isStatic;
        boolean isFinal;
        boolean isAbstract;
        Type parent;
        final List<Type> faces = new ArrayList<>();
        final List<Member> declared = new ArrayList<>();
    }

    static final class Member {
        int number;
        Type declarer;
        int kind;
        int name;
        int access;
        boolean isStatic;
        boolean isFinal;
        boolean isAbstract;
    }

    private final List<Module> modules = new ArrayList<>();
    private final List<Pack> packs = new ArrayList<>();
    private final List<Type> types = new ArrayList<>();
    private final List<Member> members = new ArrayList<>();
    private final Map<Type, Set<Type>> aboveMemo = new HashMap<>();
    private final Map<Type, Set<Member>> ofMemo = new HashMap<>();
    private final Map<Long, Boolean> overridesMemo = new HashMap<>();

    PlainJudge() {
        modules.add(new Module());
        Pack p = new Pack();
        p.module = modules.get(0);
        p.toAll = true;
        packs.add(p);
        Type root = new Type();
        root.pack = p;
        root.access = 3;
        types.add(root);
    }

    private void changed() {
        aboveMemo.clear();
        ofMemo.clear();
        overridesMemo.clear();
    }

    private static <T> T at(List<T> list, int i) {
        return i >= 0 && i < list.size() ? list.get(i) : null;
    }

    int module() {
        if (modules.size() == 6) return FULL;
        Module m = new Module();
        m.reads.add(modules.get(0));
        modules.add(m);
        return modules.size() - 1;
    }

    int reads(int m, int n) {
        Module a = at(modules, m);
        Module b = at(modules, n);
        if (a == null || b == null) return BAD;
        if (a == b) return 0;
        return a.reads.add(b) ? 1 : 0;
    }

    int pack(int module) {
        if (at(modules, module) == null) return BAD;
        if (packs.size() == 10) return FULL;
        Pack p = new Pack();
        p.module = modules.get(module);
        packs.add(p);
        return packs.size() - 1;
    }

    int export(int pack, int to) {
        Pack p = at(packs, pack);
        if (p == null || to != -1 && at(modules, to) == null) return BAD;
        if (p.toAll) return 0;
        if (to == -1) {
            p.toAll = true;
            return 1;
        }
        return p.to.add(modules.get(to)) ? 1 : 0;
    }

    int type(int pack, int outer, int sort, int access, int flags) {
        Pack p = at(packs, pack);
        Type o = at(types, outer);
        if (p == null || outer != -1 && o == null || sort < 0 || sort > 1
                || access < 0 || access > 3 || flags < 0 || flags > 7) return BAD;
        boolean isStatic = flags % 2 == 1;
        boolean isFinal = flags / 2 % 2 == 1;
        boolean isAbstract = flags / 4 == 1;
        if (o == null && !(access == 1 || access == 3)) return -11;
        if (o == null && isStatic) return -11;
        if (o != null && o.pack != p) return -12;
        if (o != null && o.isInterface && !(access == 3 && isStatic)) return -13;
        if (o != null && sort == 1 && !isStatic) return -13;
        if (sort == 1 && isFinal) return -14;
        if (isFinal && isAbstract) return -14;
        if (types.size() == 40) return FULL;
        Type t = new Type();
        t.number = types.size();
        t.pack = p;
        t.outer = o;
        t.isInterface = sort == 1;
        t.access = access;
        t.isStatic = isStatic;
        t.isFinal = isFinal;
        t.isAbstract = isAbstract;
        t.parent = sort == 0 ? types.get(0) : null;
        types.add(t);
        changed();
        return t.number;
    }

    int parent(int t, int p) {
        Type a = at(types, t);
        Type b = at(types, p);
        if (a == null || b == null || a.isInterface || b.isInterface || t == 0) return BAD;
        if (a.parent != types.get(0)) return NONE;
        if (a == b || isBelow(b, a)) return NONE;
        a.parent = b;
        changed();
        return 1;
    }

    int face(int t, int i) {
        Type a = at(types, t);
        Type b = at(types, i);
        if (a == null || b == null || !b.isInterface || t == 0) return BAD;
        if (a.faces.contains(b) || a == b || isBelow(b, a)) return NONE;
        if (a.faces.size() == 4) return FULL;
        a.faces.add(b);
        changed();
        return a.faces.size();
    }

    int member(int t, int kind, int name, int access, int flags) {
        Type a = at(types, t);
        if (a == null || kind < 0 || kind > 2 || name < 0 || name > 9
                || access < 0 || access > 3 || flags < 0 || flags > 7) return BAD;
        boolean isStatic = flags % 2 == 1;
        boolean isFinal = flags / 2 % 2 == 1;
        boolean isAbstract = flags / 4 == 1;
        if (a.isInterface) {
            if (kind == 2) return -15;
            if (kind == 0 && !(access == 3 && isStatic)) return -15;
            if (kind == 1 && !(access == 3 || access == 0)) return -15;
            if (kind == 1 && isFinal) return -15;
        }
        if (kind == 2 && flags != 0) return -16;
        if (kind == 0 && isAbstract) return -16;
        if (kind == 1 && isAbstract) {
            if (access == 0 || isStatic || isFinal) return -17;
            if (!a.isInterface && !a.isAbstract) return -17;
        }
        for (Member m : a.declared) if (m.kind == kind && m.name == name) return -18;
        if (members.size() == 120) return FULL;
        Member m = new Member();
        m.number = members.size();
        m.declarer = a;
        m.kind = kind;
        m.name = name;
        m.access = access;
        m.isStatic = isStatic;
        m.isFinal = isFinal;
        m.isAbstract = isAbstract;
        members.add(m);
        a.declared.add(m);
        changed();
        return m.number;
    }

    int count(int what) {
        if (what == 0) return modules.size();
        if (what == 1) return packs.size();
        if (what == 2) return types.size();
        if (what == 3) return members.size();
        return BAD;
    }

    private Type top(Type t) {
        return t.outer == null ? t : top(t.outer);
    }

    private Set<Type> above(Type t) {
        Set<Type> known = aboveMemo.get(t);
        if (known != null) return known;
        Set<Type> all = new LinkedHashSet<>();
        if (t.parent != null) {
            all.add(t.parent);
            all.addAll(above(t.parent));
        }
        for (Type f : t.faces) {
            all.add(f);
            all.addAll(above(f));
        }
        aboveMemo.put(t, all);
        return all;
    }

    private boolean isBelow(Type t, Type u) {
        return above(t).contains(u);
    }

    int about(int t, int what) {
        Type a = at(types, t);
        if (a == null || what < 0 || what > 6) return BAD;
        if (what == 0) return packs.indexOf(a.pack);
        if (what == 1) return a.outer == null ? NONE : a.outer.number;
        if (what == 2) return top(a).number;
        if (what == 3) return a.parent == null ? NONE : a.parent.number;
        if (what == 4) return a.faces.size();
        if (what == 5) return membersOf(a).size();
        int n = 0;
        for (Type u : types) if (isBelow(u, a)) n++;
        return n;
    }

    int below(int t, int u) {
        if (at(types, t) == null || at(types, u) == null) return BAD;
        return isBelow(types.get(t), types.get(u)) ? 1 : 0;
    }

    private Set<Member> membersOf(Type t) {
        Set<Member> known = ofMemo.get(t);
        if (known != null) return known;
        Set<Member> all = new LinkedHashSet<>(t.declared);
        Set<Member> fromParent = new LinkedHashSet<>();
        Set<Member> ofAny = new LinkedHashSet<>();
        if (t.parent != null) {
            ofAny.addAll(membersOf(t.parent));
            for (Member m : membersOf(t.parent)) {
                if (m.kind == 2 || declares(t, m) || m.access == 0) continue;
                if (m.access == 1 && m.declarer.pack != t.pack) continue;
                fromParent.add(m);
            }
        }
        for (Type f : t.faces) ofAny.addAll(membersOf(f));
        all.addAll(fromParent);
        for (Type f : t.faces) {
            for (Member m : membersOf(f)) {
                if (declares(t, m)) continue;
                if (m.kind == 0 || m.kind == 1 && comesFromFace(m, fromParent, ofAny)) all.add(m);
            }
        }
        ofMemo.put(t, all);
        return all;
    }

    private boolean declares(Type t, Member like) {
        for (Member m : t.declared) if (m.kind == like.kind && m.name == like.name) return true;
        return false;
    }

    private boolean comesFromFace(Member m, Set<Member> fromParent, Set<Member> ofAny) {
        if (m.access == 0 || m.isStatic) return false;
        for (Member x : fromParent) {
            if (x.kind == 1 && x.name == m.name && !x.declarer.isInterface && !x.isAbstract) {
                return false;
            }
        }
        for (Member x : ofAny) {
            if (x.kind == 1 && x.name == m.name && x.access != 0 && !x.isStatic
                    && isBelow(x.declarer, m.declarer)) return false;
        }
        return true;
    }

    private boolean isOpen(Type f, Type t) {
        if (t.outer == null) {
            if (t.access == 1) return f.pack == t.pack;
            Module from = f.pack.module;
            Module to = t.pack.module;
            return from == to
                    || from.reads.contains(to) && (t.pack.toAll || t.pack.to.contains(from));
        }
        if (!isOpen(f, t.outer)) return false;
        if (t.access == 0) return top(f) == top(t);
        if (t.access == 1) return f.pack == t.pack;
        if (t.access == 3) return true;
        if (f.pack == t.pack) return true;
        for (Type s = f; s != null; s = s.outer) {
            if (s == t.outer || isBelow(s, t.outer)) return true;
        }
        return false;
    }

    int open(int f, int t) {
        if (at(types, f) == null || at(types, t) == null) return BAD;
        return isOpen(types.get(f), types.get(t)) ? 1 : 0;
    }

    int of(int t, int member) {
        if (at(types, t) == null || at(members, member) == null) return BAD;
        return membersOf(types.get(t)).contains(members.get(member)) ? 1 : 0;
    }

    private boolean isOpenMember(Member m, Type f, int how, Type q) {
        if (m.access == 0) return top(f) == top(m.declarer);
        if (m.access == 3) return true;
        if (f.pack == m.declarer.pack) return true;
        if (m.access == 1) return false;
        for (Type s = f; s != null; s = s.outer) {
            if (s == m.declarer || isBelow(s, m.declarer)) {
                if (m.isStatic || how != 0 || q == s || isBelow(q, s)) return true;
            }
        }
        return false;
    }

    private List<Member> named(Type q, int kind, int name) {
        List<Member> found = new ArrayList<>();
        for (Member m : membersOf(q)) if (m.kind == kind && m.name == name) found.add(m);
        return found;
    }

    int use(int f, int how, int q, int kind, int name) {
        Type from = at(types, f);
        if (from == null || how < 0 || how > 3 || how < 2 && at(types, q) == null
                || kind < 0 || kind > 1 || name < 0 || name > 9) return BAD;
        Type used = how < 2 ? types.get(q) : how == 3 ? from.parent : from;
        if (how == 2) {
            for (Type s = from; s != null; s = s.outer) {
                if (!named(s, kind, name).isEmpty()) {
                    used = s;
                    break;
                }
            }
        }
        if (how < 2 && !isOpen(from, used)) return -11;
        if (used == null) return -11;
        List<Member> all = named(used, kind, name);
        if (all.isEmpty()) return -12;
        List<Member> open = new ArrayList<>();
        for (Member m : all) if (isOpenMember(m, from, how, used)) open.add(m);
        if (open.isEmpty()) return -13;
        if (kind == 0 && open.size() > 1) return -14;
        Member meant = null;
        for (Member m : open) if (meant == null || m.number < meant.number) meant = m;
        for (Member m : open) if (!m.declarer.isInterface) meant = m;
        if (how == 1 && !meant.isStatic) return -15;
        if (how == 2 && !meant.isStatic) {
            for (Type s = from; s != used; s = s.outer) if (s.isStatic) return -15;
        }
        if (how == 3 && meant.isAbstract) return -16;
        return meant.number;
    }

    int make(int f, int how, int q, int name) {
        Type from = at(types, f);
        if (from == null || how < 0 || how > 2 || how < 2 && at(types, q) == null
                || name < 0 || name > 9) return BAD;
        Type made = how < 2 ? types.get(q) : from.parent;
        if (how < 2 && !isOpen(from, made)) return -11;
        if (made == null) return -11;
        Member maker = null;
        for (Member m : made.declared) if (m.kind == 2 && m.name == name) maker = m;
        if (maker == null) return -12;
        if (maker.access == 0 && top(from) != top(made)) return -13;
        if (maker.access == 1 && from.pack != made.pack) return -13;
        if (maker.access == 2 && from.pack != made.pack && how == 0) return -13;
        if (how == 0 && made.isAbstract) return -15;
        if (how == 1 && made.isFinal) return -16;
        return maker.number;
    }

    private static boolean isPlainMethod(Member m) {
        return m.kind == 1 && m.access != 0 && !m.isStatic;
    }

    private boolean isOverriding(Member d, Member a) {
        long key = d.number * 1000L + a.number;
        Boolean known = overridesMemo.get(key);
        if (known != null) return known;
        boolean answer = isOverridingAnew(d, a);
        overridesMemo.put(key, answer);
        return answer;
    }

    private boolean isOverridingAnew(Member d, Member a) {
        if (d.name != a.name || !isPlainMethod(d) || !isPlainMethod(a)) return false;
        if (!isBelow(d.declarer, a.declarer)) return false;
        if (a.access >= 2 || d.declarer.pack == a.declarer.pack) return true;
        for (Member b : members) {
            if (b.kind == 1 && !b.declarer.isInterface && isBelow(b.declarer, a.declarer)
                    && isBelow(d.declarer, b.declarer)
                    && isOverriding(d, b) && isOverriding(b, a)) return true;
        }
        return false;
    }

    private boolean isMethod(int m) {
        return at(members, m) != null && members.get(m).kind == 1;
    }

    int overrides(int d, int a) {
        if (!isMethod(d) || !isMethod(a)) return BAD;
        return isOverriding(members.get(d), members.get(a)) ? 1 : 0;
    }

    int choose(int m, int t) {
        Type a = at(types, t);
        if (!isMethod(m) || a == null || a.isInterface || a.isAbstract) return BAD;
        Member x = members.get(m);
        if (a != x.declarer && !isBelow(a, x.declarer)) return BAD;
        if (!isPlainMethod(x)) return m;
        for (Type c = a; c != null; c = c.parent) {
            for (Member y : c.declared) {
                if (y == x || y.kind == 1 && isOverriding(y, x)) return y.number;
                if (x.declarer.isInterface && y.name == x.name && isPlainMethod(y)) return y.number;
            }
        }
        List<Member> all = new ArrayList<>();
        for (Type i : above(a)) {
            for (Member y : i.declared) {
                if (i.isInterface && y.name == x.name && isPlainMethod(y)) all.add(y);
            }
        }
        List<Member> ready = new ArrayList<>();
        for (Member y : all) {
            boolean beaten = false;
            for (Member z : all) beaten |= isBelow(z.declarer, y.declarer);
            if (!beaten && !y.isAbstract) ready.add(y);
        }
        return ready.isEmpty() ? NONE : ready.size() > 1 ? TWO : ready.get(0).number;
    }

    private List<int[]> faults(Type t) {
        List<int[]> all = new ArrayList<>();
        if (t.parent != null && !isOpen(t, t.parent)) all.add(new int[] {1, t.parent.number});
        for (Type f : t.faces) if (!isOpen(t, f)) all.add(new int[] {2, f.number});
        if (t.parent != null && t.parent.isFinal) all.add(new int[] {3, t.parent.number});
        for (Member d : t.declared) {
            if (d.kind != 1) continue;
            boolean four = false;
            boolean five = false;
            boolean six = false;
            for (Member a : members) {
                if (a.kind != 1 || a.name != d.name || a.access == 0) continue;
                if (!isBelow(t, a.declarer)) continue;
                if (!(a.access >= 2 || a.declarer.pack == t.pack || isOverriding(d, a))) continue;
                if (a.isStatic && a.declarer.isInterface) continue;
                four |= a.access > d.access;
                five |= a.isFinal;
                six |= a.isStatic != d.isStatic;
            }
            if (four) all.add(new int[] {4, d.number});
            if (five) all.add(new int[] {5, d.number});
            if (six) all.add(new int[] {6, d.number});
        }
        for (Member m : membersOf(t)) {
            if (m.kind != 1) continue;
            if (!t.isInterface && !t.isAbstract && m.isAbstract) all.add(new int[] {7, m.number});
            if (!m.declarer.isInterface || m.isAbstract || !isPlainMethod(m)) continue;
            boolean another = false;
            for (Member x : membersOf(t)) {
                another |= x != m && x.name == m.name && isPlainMethod(x);
            }
            if (another) all.add(new int[] {8, m.number});
        }
        all.sort((x, y) -> x[0] != y[0] ? x[0] - y[0] : x[1] - y[1]);
        return all;
    }

    int check(int t) {
        return at(types, t) == null ? BAD : faults(types.get(t)).size();
    }

    int fault(int t, int i, int what) {
        if (at(types, t) == null || what < 0 || what > 1) return BAD;
        List<int[]> all = faults(types.get(t));
        return i < 0 || i >= all.size() ? BAD : all.get(i)[what];
    }
}
