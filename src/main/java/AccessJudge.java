import java.util.Arrays;

/**
 * Who may use what, by the rules of Java. The words in capitals are those of the document.
 *
 * A TYPE DECLARES one MEMBER at most of a kind and NAME (a "group" here), so within a group a
 * MEMBER is known by its DECLARER, and a set of MEMBERS is a set of TYPES: 40 bits of a long.
 */
public final class AccessJudge {
    public static final int BAD = -1, NONE = -2, TWO = -3, FULL = -4;

    private static final int MODULES = 6, PACKAGES = 10, TYPES = 40, MEMBERS = 120, FACES = 4;
    private static final int KINDS = 3, NAMES = 10, SORTS = 2, ACCESSES = 4, ALL_FLAGS = 7;
    private static final int ROOT = 0, NO_TYPE = -1, NO_MEMBER = -1, TO_ALL = -1;
    private static final int CLASS = 0, INTERFACE = 1;
    private static final int PRIVATE = 0, PACKAGE = 1, PROTECTED = 2, PUBLIC = 3;
    private static final int STATIC = 1, FINAL = 2, ABSTRACT = 4;
    private static final int FIELD = 0, METHOD = 1, MAKER = 2;
    private static final int BY_OBJECT = 0, BY_TYPE = 1, BY_NAME = 2, BY_SUPER = 3;
    private static final int NEW = 0, NEW_WITH_BODY = 1, SUPER_MAKER = 2;
    private static final int REFUSED = -10;

    private final Modules modules = new Modules();
    private final Types types = new Types();
    private final Members members = new Members(types);
    private final Inheritance inheritance = new Inheritance(types, members);
    private final Overriding overriding = new Overriding(types, members);
    private final Openness openness = new Openness(modules, types, members);
    private final Uses uses = new Uses(types, members, inheritance, openness);
    private final Choice choice = new Choice(types, members, overriding);
    private final Faults faults = new Faults(types, members, inheritance, overriding, openness);

    public AccessJudge() {
    }

    public int module() {
        return modules.addModule();
    }

    public int reads(int m, int n) {
        if (!modules.hasModule(m) || !modules.hasModule(n)) {
            return BAD;
        }
        return modules.addReading(m, n);
    }

    public int pack(int module) {
        if (!modules.hasModule(module)) {
            return BAD;
        }
        return modules.addPack(module);
    }

    public int export(int pack, int to) {
        if (!modules.hasPack(pack) || (to != TO_ALL && !modules.hasModule(to))) {
            return BAD;
        }
        return modules.addExport(pack, to);
    }

    public int type(int pack, int outer, int sort, int access, int flags) {
        if (!modules.hasPack(pack) || (outer != NO_TYPE && !types.exists(outer))
                || !isWithin(sort, SORTS) || !isWithin(access, ACCESSES) || !areFlags(flags)) {
            return BAD;
        }
        int rule = types.brokenRule(pack, outer, sort, access, flags);
        if (rule != 0) {
            return REFUSED - rule;
        }
        int added = types.add(pack, outer, sort, access, flags);
        forgetAnswers();
        return added;
    }

    public int parent(int t, int p) {
        if (!types.exists(t) || !types.exists(p) || !types.isClass(t) || !types.isClass(p)
                || t == ROOT) {
            return BAD;
        }
        if (types.parent[t] != ROOT || types.isSameOrBelow(p, t)) {
            return NONE;
        }
        types.setParent(t, p);
        forgetAnswers();
        return 1;
    }

    public int face(int t, int i) {
        if (!types.exists(t) || !types.exists(i) || types.isClass(i) || t == ROOT) {
            return BAD;
        }
        if (Sets.has(types.faces[t], i) || types.isSameOrBelow(i, t)) {
            return NONE;
        }
        if (types.faceCount(t) >= FACES) {
            return FULL;
        }
        types.addFace(t, i);
        forgetAnswers();
        return types.faceCount(t);
    }

    public int member(int t, int kind, int name, int access, int flags) {
        if (!types.exists(t) || !isWithin(kind, KINDS) || !isWithin(name, NAMES)
                || !isWithin(access, ACCESSES) || !areFlags(flags)) {
            return BAD;
        }
        int rule = members.brokenRule(t, kind, name, access, flags);
        if (rule != 0) {
            return REFUSED - rule;
        }
        int added = members.add(t, kind, name, access, flags);
        forgetAnswers();
        return added;
    }

    public int count(int what) {
        switch (what) {
            case 0: return modules.modules;
            case 1: return modules.packs;
            case 2: return types.count;
            case 3: return members.count;
            default: return BAD;
        }
    }

    public int about(int t, int what) {
        if (!types.exists(t)) {
            return BAD;
        }
        switch (what) {
            case 0: return types.pack[t];
            case 1: return typeOrNone(types.outer[t]);
            case 2: return types.top[t];
            case 3: return typeOrNone(types.parent[t]);
            case 4: return types.faceCount(t);
            case 5: return inheritance.howMany(t);
            case 6: return Long.bitCount(types.below[t]);
            default: return BAD;
        }
    }

    public int below(int t, int u) {
        if (!types.exists(t) || !types.exists(u)) {
            return BAD;
        }
        return yesOrNo(Sets.has(types.above[t], u));
    }

    public int open(int f, int t) {
        if (!types.exists(f) || !types.exists(t)) {
            return BAD;
        }
        return yesOrNo(openness.isTypeOpen(f, t));
    }

    public int of(int t, int member) {
        if (!types.exists(t) || !members.exists(member)) {
            return BAD;
        }
        long declarers = inheritance.membersOf(t, members.group[member]);
        return yesOrNo(Sets.has(declarers, members.declarer[member]));
    }

    public int use(int f, int how, int q, int kind, int name) {
        if (!types.exists(f) || how < BY_OBJECT || how > BY_SUPER
                || (how <= BY_TYPE && !types.exists(q))
                || kind < FIELD || kind > METHOD || !isWithin(name, NAMES)) {
            return BAD;
        }
        int group = kind * NAMES + name;
        return uses.meant(f, how, uses.usedType(f, how, q, group), group);
    }

    public int make(int f, int how, int q, int name) {
        if (!types.exists(f) || how < NEW || how > SUPER_MAKER
                || (how <= NEW_WITH_BODY && !types.exists(q)) || !isWithin(name, NAMES)) {
            return BAD;
        }
        return uses.maker(f, how, q, name);
    }

    public int overrides(int d, int a) {
        if (!members.isMethod(d) || !members.isMethod(a)) {
            return BAD;
        }
        return yesOrNo(overriding.holds(d, a));
    }

    public int choose(int m, int t) {
        if (!members.isMethod(m) || !types.exists(t) || !types.isClass(t)
                || types.hasFlag(t, ABSTRACT) || !types.isSameOrBelow(t, members.declarer[m])) {
            return BAD;
        }
        return choice.chosen(m, t);
    }

    public int check(int t) {
        if (!types.exists(t)) {
            return BAD;
        }
        faults.find(t);
        return faults.size;
    }

    public int fault(int t, int i, int what) {
        if (!types.exists(t) || what < 0 || what > 1) {
            return BAD;
        }
        faults.find(t);
        if (!isWithin(i, faults.size)) {
            return BAD;
        }
        return what == 0 ? faults.codes[i] : faults.numbers[i];
    }

    private void forgetAnswers() {
        inheritance.forget();
        overriding.forget();
    }

    private static boolean isWithin(int number, int bound) {
        return number >= 0 && number < bound;
    }

    private static boolean areFlags(int flags) {
        return flags >= 0 && flags <= ALL_FLAGS;
    }

    private static int typeOrNone(int t) {
        return t == NO_TYPE ? NONE : t;
    }

    private static int yesOrNo(boolean answer) {
        return answer ? 1 : 0;
    }

    /** Sets of TYPES: a bit for each number. */
    private static final class Sets {
        static long one(int t) {
            return 1L << t;
        }

        static boolean has(long set, int t) {
            return (set >>> t & 1L) != 0;
        }

        /** The least number of a set that is not empty. */
        static int least(long set) {
            return Long.bitCount((set & -set) - 1);
        }
    }

    /** MODULES, PACKAGES, and what is told of them. */
    private static final class Modules {
        // More bits than there are MODULES, so that MODULES that come later are among them.
        private static final int EVERY_MODULE = -1;

        int modules = 1;
        int packs = 1;
        private final int[] readOnes = new int[MODULES];
        private final int[] home = new int[PACKAGES];
        private final int[] exportedTo = new int[PACKAGES];

        Modules() {
            exportedTo[0] = EVERY_MODULE;
        }

        boolean hasModule(int m) {
            return m >= 0 && m < modules;
        }

        boolean hasPack(int p) {
            return p >= 0 && p < packs;
        }

        int addModule() {
            if (modules >= MODULES) {
                return FULL;
            }
            readOnes[modules] = 1;
            return modules++;
        }

        int addReading(int m, int n) {
            if (m == n || (readOnes[m] >> n & 1) != 0) {
                return 0;
            }
            readOnes[m] |= 1 << n;
            return 1;
        }

        int addPack(int module) {
            if (packs >= PACKAGES) {
                return FULL;
            }
            home[packs] = module;
            return packs++;
        }

        int addExport(int pack, int to) {
            int more = to == TO_ALL ? EVERY_MODULE : 1 << to;
            if ((exportedTo[pack] & more) == more) {
                return 0;
            }
            exportedTo[pack] |= more;
            return 1;
        }

        /** Whether public TYPES at the top of a PACKAGE are OPEN to code in another one. */
        boolean isPublicSeen(int pack, int from) {
            int m = home[from];
            int n = home[pack];
            return m == n || ((readOnes[m] >> n & 1) != 0 && (exportedTo[pack] >> m & 1) != 0);
        }
    }

    /** TYPES, and which are within, ABOVE and BELOW which. */
    private static final class Types {
        int count = 1;
        long classes = Sets.one(ROOT);
        long statics;
        final int[] pack = new int[TYPES];
        final int[] outer = new int[TYPES];
        final int[] top = new int[TYPES];
        final int[] access = new int[TYPES];
        final int[] parent = new int[TYPES];
        private final int[] flags = new int[TYPES];
        final long[] faces = new long[TYPES];
        final long[] above = new long[TYPES];
        final long[] below = new long[TYPES];
        /** Each TYPE with the OUTERS around it; these have lesser numbers the farther out. */
        final long[] around = new long[TYPES];
        /** All TYPES, each behind all ABOVE it. */
        final int[] order = new int[TYPES];
        private final int[] nextOrder = new int[TYPES];
        private final long[] ofPack = new long[PACKAGES];

        Types() {
            outer[ROOT] = NO_TYPE;
            parent[ROOT] = NO_TYPE;
            access[ROOT] = PUBLIC;
            around[ROOT] = Sets.one(ROOT);
            ofPack[0] = Sets.one(ROOT);
        }

        boolean exists(int t) {
            return t >= 0 && t < count;
        }

        boolean isClass(int t) {
            return Sets.has(classes, t);
        }

        boolean hasFlag(int t, int flag) {
            return (flags[t] & flag) != 0;
        }

        int faceCount(int t) {
            return Long.bitCount(faces[t]);
        }

        boolean isSameOrBelow(int t, int u) {
            return Sets.has(sameOrBelow(u), t);
        }

        long sameOrBelow(int t) {
            return Sets.one(t) | below[t];
        }

        long sameOrAbove(int t) {
            return Sets.one(t) | above[t];
        }

        /** All TYPES of a TYPE's PACKAGE. */
        long neighbours(int t) {
            return ofPack[pack[t]];
        }

        int brokenRule(int pack, int outer, int sort, int access, int flags) {
            boolean isStatic = (flags & STATIC) != 0;
            boolean isFinal = (flags & FINAL) != 0;
            if (outer == NO_TYPE) {
                if ((access != PACKAGE && access != PUBLIC) || isStatic) {
                    return 1;
                }
            } else if (this.pack[outer] != pack) {
                return 2;
            } else if (!isClass(outer) && (access != PUBLIC || !isStatic)) {
                return 3;
            } else if (sort == INTERFACE && !isStatic) {
                return 3;
            }
            return isFinal && (sort == INTERFACE || (flags & ABSTRACT) != 0) ? 4 : 0;
        }

        int add(int pack, int outer, int sort, int access, int flags) {
            if (count >= TYPES) {
                return FULL;
            }
            int t = count++;
            this.pack[t] = pack;
            this.access[t] = access;
            this.flags[t] = flags;
            parent[t] = NO_TYPE;
            order[t] = t;
            ofPack[pack] |= Sets.one(t);
            if ((flags & STATIC) != 0) {
                statics |= Sets.one(t);
            }
            putWithin(t, outer);
            if (sort == CLASS) {
                classes |= Sets.one(t);
                setParent(t, ROOT);
            }
            return t;
        }

        private void putWithin(int t, int outer) {
            this.outer[t] = outer;
            top[t] = t;
            around[t] = Sets.one(t);
            if (outer != NO_TYPE) {
                top[t] = top[outer];
                around[t] |= around[outer];
            }
        }

        void setParent(int t, int p) {
            parent[t] = p;
            putBelow(t, p);
        }

        void addFace(int t, int i) {
            faces[t] |= Sets.one(i);
            putBelow(t, i);
        }

        // Nothing ever ceases to be ABOVE: THE ROOT is above each new PARENT, or is it.
        private void putBelow(int t, int u) {
            long lower = sameOrBelow(t);
            long upper = sameOrAbove(u);
            for (int x = 0; x < count; x++) {
                if (Sets.has(lower, x)) {
                    above[x] |= upper;
                }
                if (Sets.has(upper, x)) {
                    below[x] |= lower;
                }
            }
            putLastInOrder(lower);
        }

        // Right, since nothing outside of a TYPE and those BELOW it has one of these ABOVE.
        private void putLastInOrder(long last) {
            int placed = 0;
            for (int i = 0; i < count; i++) {
                if (!Sets.has(last, order[i])) {
                    nextOrder[placed++] = order[i];
                }
            }
            for (int i = 0; i < count; i++) {
                if (Sets.has(last, order[i])) {
                    nextOrder[placed++] = order[i];
                }
            }
            System.arraycopy(nextOrder, 0, order, 0, count);
        }

        /** Those of a set that have none of the rivals BELOW them. */
        long withoutAnyBelow(long set, long rivals) {
            long beaten = 0;
            for (int t = 0; t < count; t++) {
                beaten |= (rivals >>> t & 1L) != 0 ? above[t] : 0;
            }
            return set & ~beaten;
        }
    }

    /** MEMBERS as they are DECLARED. A group is kind * NAMES + NAME. */
    private static final class Members {
        private static final int GROUPS = KINDS * NAMES;

        private final Types types;
        int count = 0;
        final int[] declarer = new int[MEMBERS];
        final int[] group = new int[MEMBERS];
        final int[] access = new int[MEMBERS];
        private final int[] flags = new int[MEMBERS];
        private final int[] numbers = new int[GROUPS * TYPES];
        /** For each group, the TYPES that DECLARE one, and those whose one is private, .. */
        final long[] declarers = new long[GROUPS];
        final long[] privates = new long[GROUPS];
        final long[] packageOnes = new long[GROUPS];
        final long[] statics = new long[GROUPS];
        final long[] abstracts = new long[GROUPS];

        Members(Types types) {
            this.types = types;
            Arrays.fill(numbers, NO_MEMBER);
        }

        boolean exists(int m) {
            return m >= 0 && m < count;
        }

        boolean isMethod(int m) {
            return exists(m) && isMethodGroup(group[m]);
        }

        boolean isMethodGroup(int g) {
            return g >= METHOD * NAMES && g < MAKER * NAMES;
        }

        boolean hasFlag(int m, int flag) {
            return (flags[m] & flag) != 0;
        }

        /** The MEMBER of a group that a TYPE DECLARES. */
        int declared(int t, int g) {
            return numbers[g * TYPES + t];
        }

        /** The DECLARERS whose one of the group is neither private nor STATIC. */
        long overridable(int g) {
            return declarers[g] & ~privates[g] & ~statics[g];
        }

        int brokenRule(int t, int kind, int name, int access, int flags) {
            boolean isInterface = !types.isClass(t);
            if (isInterface && !fitsInterface(kind, access, flags)) {
                return 5;
            }
            boolean isAbstract = (flags & ABSTRACT) != 0;
            if ((kind == MAKER && flags != 0) || (kind == FIELD && isAbstract)) {
                return 6;
            }
            if (isAbstract && (access == PRIVATE || (flags & (STATIC | FINAL)) != 0)) {
                return 7;
            }
            if (isAbstract && !isInterface && !types.hasFlag(t, ABSTRACT)) {
                return 7;
            }
            return declared(t, kind * NAMES + name) != NO_MEMBER ? 8 : 0;
        }

        private boolean fitsInterface(int kind, int access, int flags) {
            if (kind == FIELD) {
                return access == PUBLIC && (flags & STATIC) != 0;
            }
            return kind == METHOD && (access == PUBLIC || access == PRIVATE)
                    && (flags & FINAL) == 0;
        }

        int add(int t, int kind, int name, int access, int flags) {
            if (count >= MEMBERS) {
                return FULL;
            }
            int m = count++;
            int g = kind * NAMES + name;
            declarer[m] = t;
            group[m] = g;
            this.access[m] = access;
            this.flags[m] = flags;
            numbers[g * TYPES + t] = m;
            declarers[g] |= Sets.one(t);
            privates[g] |= access == PRIVATE ? Sets.one(t) : 0;
            packageOnes[g] |= access == PACKAGE ? Sets.one(t) : 0;
            statics[g] |= (flags & STATIC) != 0 ? Sets.one(t) : 0;
            abstracts[g] |= (flags & ABSTRACT) != 0 ? Sets.one(t) : 0;
            return m;
        }
    }

    /** MEMBERS OF a TYPE. */
    private static final class Inheritance {
        private static final int INHERITED_GROUPS = MAKER * NAMES;

        private final Types types;
        private final Members members;
        private final long[] found = new long[INHERITED_GROUPS * TYPES];
        /** A bit for each group whose part of found is right. */
        private int known;

        Inheritance(Types types, Members members) {
            this.types = types;
            this.members = members;
        }

        void forget() {
            known = 0;
        }

        int howMany(int t) {
            int all = 0;
            for (int g = 0; g < Members.GROUPS; g++) {
                all += Long.bitCount(membersOf(t, g));
            }
            return all;
        }

        /** The DECLARERS of the MEMBERS OF a TYPE in a group. */
        long membersOf(int t, int g) {
            if (g >= INHERITED_GROUPS) {
                return members.declarers[g] & Sets.one(t);
            }
            if (members.declarers[g] == 0) {
                return 0;
            }
            if ((known >> g & 1) == 0) {
                for (int i = 0; i < types.count; i++) {
                    int u = types.order[i];
                    found[g * TYPES + u] = find(u, g);
                }
                known |= 1 << g;
            }
            return found[g * TYPES + t];
        }

        private long find(int t, int g) {
            if (Sets.has(members.declarers[g], t)) {
                return Sets.one(t);
            }
            int p = types.parent[t];
            long ofParent = p == NO_TYPE ? 0 : found[g * TYPES + p];
            long fromParent = fromParent(t, g, ofParent);
            return fromParent | fromFaces(g, ofFaces(t, g), ofParent, fromParent);
        }

        private long fromParent(int t, int g, long ofParent) {
            long tooFar = members.packageOnes[g] & ~types.neighbours(t);
            return ofParent & ~members.privates[g] & ~tooFar;
        }

        private long fromFaces(int g, long ofFaces, long ofParent, long fromParent) {
            if (!members.isMethodGroup(g)) {
                return ofFaces;
            }
            if ((fromParent & types.classes & ~members.abstracts[g]) != 0) {
                return 0;
            }
            long plain = members.overridable(g);
            return types.withoutAnyBelow(ofFaces & plain, (ofFaces | ofParent) & plain);
        }

        private long ofFaces(int t, int g) {
            long faces = types.faces[t];
            long all = 0;
            for (int n = 0; n < FACES && faces != 0; n++) {
                int i = Sets.least(faces);
                all |= found[g * TYPES + i];
                faces &= ~Sets.one(i);
            }
            return all;
        }
    }

    /** Which METHOD OVERRIDES which. */
    private static final class Overriding {
        private final Types types;
        private final Members members;
        /** For each NAME and TYPE: the DECLARERS of what its METHOD OVERRIDES, and the reverse. */
        private final long[] overridden = new long[NAMES * TYPES];
        private final long[] overriders = new long[NAMES * TYPES];
        /** A bit for each NAME whose part of both is right. */
        private int known;

        Overriding(Types types, Members members) {
            this.types = types;
            this.members = members;
        }

        void forget() {
            known = 0;
        }

        boolean holds(int d, int a) {
            int g = members.group[d];
            return g == members.group[a]
                    && Sets.has(overriddenBy(members.declarer[d], g), members.declarer[a]);
        }

        /** The DECLARERS of the METHODS that a TYPE's own METHOD of a group OVERRIDES. */
        long overriddenBy(int t, int g) {
            return overridden[knownRow(g) + t];
        }

        /** The DECLARERS of the METHODS that OVERRIDE a TYPE's own METHOD of a group. */
        long overridersOf(int t, int g) {
            return overriders[knownRow(g) + t];
        }

        /** Where the row of a group begins, which is right from then on. */
        private int knownRow(int g) {
            int name = g - METHOD * NAMES;
            int row = name * TYPES;
            if ((known >> name & 1) == 0) {
                clear(row);
                long able = members.overridable(g);
                for (int i = 0; i < types.count; i++) {
                    findOverridden(i, able, g, row);
                }
                known |= 1 << name;
            }
            return row;
        }

        private void clear(int row) {
            for (int t = 0; t < TYPES; t++) {
                overridden[row + t] = 0;
                overriders[row + t] = 0;
            }
        }

        // Outwards from d, so that all that lies between d and a is known when a comes.
        private void findOverridden(int place, long able, int g, int row) {
            int d = types.order[place];
            long higher = Sets.has(able, d) ? able & types.above[d] : 0;
            for (int i = place - 1; i >= 0 && higher != 0; i--) {
                int a = types.order[i];
                if (Sets.has(higher, a) && reaches(d, a, g, row)) {
                    overridden[row + d] |= Sets.one(a);
                    overriders[row + a] |= Sets.one(d);
                }
            }
        }

        private boolean reaches(int d, int a, int g, int row) {
            long between = overridden[row + d] & overriders[row + a] & types.classes;
            return !Sets.has(members.packageOnes[g], a) || types.pack[d] == types.pack[a]
                    || between != 0;
        }
    }

    /** What is OPEN to code in a TYPE f. */
    private static final class Openness {
        private final Modules modules;
        private final Types types;
        private final Members members;

        Openness(Modules modules, Types types, Members members) {
            this.modules = modules;
            this.types = types;
            this.members = members;
        }

        boolean isTypeOpen(int f, int t) {
            for (int s = t; s >= 0; s--) {
                if (Sets.has(types.around[t], s) && !isOpenWithinOuter(f, s)) {
                    return false;
                }
            }
            return true;
        }

        private boolean isOpenWithinOuter(int f, int t) {
            int outer = types.outer[t];
            if (types.access[t] == PUBLIC) {
                return outer != NO_TYPE || modules.isPublicSeen(types.pack[t], types.pack[f]);
            }
            if (types.access[t] == PRIVATE) {
                return types.top[f] == types.top[t];
            }
            return types.pack[f] == types.pack[t]
                    || (types.access[t] == PROTECTED && outer != NO_TYPE
                    && (types.around[f] & types.sameOrBelow(outer)) != 0);
        }

        /** Those of a set of DECLARERS whose MEMBER of the group is OPEN to f. */
        long openOnes(long declarers, int f, int how, int q, int g) {
            long kept = 0;
            for (int t = 0; t < types.count; t++) {
                if (Sets.has(declarers, t) && isMemberOpen(f, how, q, members.declared(t, g))) {
                    kept |= Sets.one(t);
                }
            }
            return kept;
        }

        private boolean isMemberOpen(int f, int how, int q, int m) {
            if (m == NO_MEMBER) {
                return false;
            }
            return isNearEnough(f, m)
                    || (members.access[m] == PROTECTED && isProtectedOpen(f, how, q, m));
        }

        /** Whether a MEMBER's ACCESS suffices for f, with protected taken as package. */
        private boolean isNearEnough(int f, int m) {
            int declarer = members.declarer[m];
            switch (members.access[m]) {
                case PRIVATE: return types.top[f] == types.top[declarer];
                case PUBLIC: return true;
                default: return types.pack[f] == types.pack[declarer];
            }
        }

        private boolean isProtectedOpen(int f, int how, int q, int m) {
            long heirs = types.around[f] & types.sameOrBelow(members.declarer[m]);
            if (how == BY_OBJECT && !members.hasFlag(m, STATIC)) {
                return (heirs & types.sameOrAbove(q)) != 0;
            }
            return heirs != 0;
        }

        boolean isMakerOpen(int f, int how, int m) {
            return isNearEnough(f, m) || (members.access[m] == PROTECTED && how != NEW);
        }
    }

    /** Which MEMBER a use means, and which MAKER. */
    private static final class Uses {
        private static final int NOT_OPEN_TYPE = REFUSED - 1, NOT_THERE = REFUSED - 2;
        private static final int NOT_OPEN = REFUSED - 3, SEVERAL_FIELDS = REFUSED - 4;
        private static final int NOT_STATIC = REFUSED - 5, IS_ABSTRACT = REFUSED - 6;
        private static final int MAKES_ABSTRACT = REFUSED - 5, EXTENDS_FINAL = REFUSED - 6;

        private final Types types;
        private final Members members;
        private final Inheritance inheritance;
        private final Openness openness;

        Uses(Types types, Members members, Inheritance inheritance, Openness openness) {
            this.types = types;
            this.members = members;
            this.inheritance = inheritance;
            this.openness = openness;
        }

        /** The TYPE whose MEMBERS a use is of: the one that is told, or one that follows from f. */
        int usedType(int f, int how, int told, int g) {
            if (how == BY_SUPER) {
                return types.parent[f];
            }
            if (how != BY_NAME) {
                return told;
            }
            for (int q = f; q >= 0; q--) {
                if (Sets.has(types.around[f], q) && inheritance.membersOf(q, g) != 0) {
                    return q;
                }
            }
            return f;
        }

        int meant(int f, int how, int q, int g) {
            if (q == NO_TYPE || (how <= BY_TYPE && !openness.isTypeOpen(f, q))) {
                return NOT_OPEN_TYPE;
            }
            long all = inheritance.membersOf(q, g);
            if (all == 0) {
                return NOT_THERE;
            }
            long open = openness.openOnes(all, f, how, q, g);
            if (open == 0) {
                return NOT_OPEN;
            }
            if (!members.isMethodGroup(g) && Long.bitCount(open) > 1) {
                return SEVERAL_FIELDS;
            }
            return allowed(f, how, q, preferred(open, g));
        }

        private int preferred(long open, int g) {
            long ofClasses = open & types.classes;
            long best = ofClasses != 0 ? ofClasses : open;
            int least = NO_MEMBER;
            for (int t = 0; t < types.count; t++) {
                if (Sets.has(best, t)) {
                    int m = members.declared(t, g);
                    least = least == NO_MEMBER || m < least ? m : least;
                }
            }
            return least;
        }

        private int allowed(int f, int how, int q, int m) {
            if (m == NO_MEMBER) {
                return NOT_OPEN;
            }
            boolean isStatic = members.hasFlag(m, STATIC);
            if (!isStatic && (how == BY_TYPE || (how == BY_NAME && hasStaticAhead(f, q)))) {
                return NOT_STATIC;
            }
            return how == BY_SUPER && members.hasFlag(m, ABSTRACT) ? IS_ABSTRACT : m;
        }

        // What is nearer to f than q has a greater number than q.
        private boolean hasStaticAhead(int f, int q) {
            return (types.around[f] & types.statics) >>> q >>> 1 != 0;
        }

        int maker(int f, int how, int told, int name) {
            int q = how == SUPER_MAKER ? types.parent[f] : told;
            if (q == NO_TYPE || (how != SUPER_MAKER && !openness.isTypeOpen(f, q))) {
                return NOT_OPEN_TYPE;
            }
            int m = members.declared(q, MAKER * NAMES + name);
            if (m == NO_MEMBER) {
                return NOT_THERE;
            }
            if (!openness.isMakerOpen(f, how, m)) {
                return NOT_OPEN;
            }
            if (how == NEW && types.hasFlag(q, ABSTRACT)) {
                return MAKES_ABSTRACT;
            }
            return how == NEW_WITH_BODY && types.hasFlag(q, FINAL) ? EXTENDS_FINAL : m;
        }
    }

    /** What is CHOSEN for a METHOD and an object. */
    private static final class Choice {
        private final Types types;
        private final Members members;
        private final Overriding overriding;

        Choice(Types types, Members members, Overriding overriding) {
            this.types = types;
            this.members = members;
            this.overriding = overriding;
        }

        int chosen(int m, int t) {
            int g = members.group[m];
            int declarer = members.declarer[m];
            if (!Sets.has(members.overridable(g), declarer)) {
                return m;
            }
            long right = Sets.one(declarer) | overriding.overridersOf(declarer, g);
            if (!types.isClass(declarer)) {
                right |= members.overridable(g);
            }
            int nearest = nearestClass(t, right);
            return nearest != NO_TYPE ? members.declared(nearest, g) : fromInterfaces(t, g);
        }

        private int nearestClass(int t, long right) {
            int c = t;
            for (int n = 0; n < TYPES && c != NO_TYPE; n++) {
                if (Sets.has(right, c)) {
                    return c;
                }
                c = types.parent[c];
            }
            return NO_TYPE;
        }

        private int fromInterfaces(int t, int g) {
            long all = types.above[t] & ~types.classes & members.overridable(g);
            long ready = types.withoutAnyBelow(all, all) & ~members.abstracts[g];
            if (ready == 0) {
                return NONE;
            }
            return Long.bitCount(ready) > 1 ? TWO : members.declared(Sets.least(ready), g);
        }
    }

    /** The FAULTS of the TYPE that was last looked at. */
    private static final class Faults {
        // A PARENT twice, each FACE, three for each METHOD's NAME, and 7 or 8 for a METHOD.
        private static final int ROOM = 2 + FACES + 3 * NAMES + MEMBERS;

        private final Types types;
        private final Members members;
        private final Inheritance inheritance;
        private final Overriding overriding;
        private final Openness openness;
        int size;
        final int[] codes = new int[ROOM];
        final int[] numbers = new int[ROOM];
        /** For each NAME: the DECLARERS of the METHODS OF the TYPE, and of those met by its own. */
        private final long[] methodsOf = new long[NAMES];
        private final long[] met = new long[NAMES];

        Faults(Types types, Members members, Inheritance inheritance, Overriding overriding,
                Openness openness) {
            this.types = types;
            this.members = members;
            this.inheritance = inheritance;
            this.overriding = overriding;
            this.openness = openness;
        }

        void find(int t) {
            size = 0;
            for (int name = 0; name < NAMES; name++) {
                int g = METHOD * NAMES + name;
                methodsOf[name] = inheritance.membersOf(t, g);
                met[name] = Sets.has(members.declarers[g], t)
                        ? metBy(t, g, overriding.overriddenBy(t, g)) : 0;
            }
            findInTypesAbove(t);
            findInDeclared(t);
            findInMembers(t);
        }

        /** The DECLARERS of the METHODS that a TYPE's own one of the group is held against. */
        private long metBy(int t, int g, long overridden) {
            long tooFar = members.packageOnes[g] & ~types.neighbours(t) & ~overridden;
            long staticOnesOfInterfaces = members.statics[g] & ~types.classes;
            return types.above[t] & members.declarers[g] & ~members.privates[g] & ~tooFar
                    & ~staticOnesOfInterfaces;
        }

        private void addIf(boolean isFault, int code, int number) {
            if (isFault && size < ROOM) {
                codes[size] = code;
                numbers[size] = number;
                size++;
            }
        }

        private void findInTypesAbove(int t) {
            int p = types.parent[t];
            addIf(p != NO_TYPE && !openness.isTypeOpen(t, p), 1, p);
            for (int i = 0; i < types.count; i++) {
                addIf(Sets.has(types.faces[t], i) && !openness.isTypeOpen(t, i), 2, i);
            }
            addIf(p != NO_TYPE && types.hasFlag(p, FINAL), 3, p);
        }

        private void findInDeclared(int t) {
            for (int code = 4; code <= 6; code++) {
                for (int d = 0; d < members.count; d++) {
                    if (members.declarer[d] == t && members.isMethod(d)) {
                        addIf(clashes(code, d), code, d);
                    }
                }
            }
        }

        private boolean clashes(int code, int d) {
            int g = members.group[d];
            long others = met[g - METHOD * NAMES];
            for (int u = 0; u < types.count && others != 0; u++) {
                if (Sets.has(others, u) && clashesWith(code, d, members.declared(u, g))) {
                    return true;
                }
            }
            return false;
        }

        private boolean clashesWith(int code, int d, int a) {
            if (a == NO_MEMBER) {
                return false;
            }
            switch (code) {
                case 4: return members.access[a] > members.access[d];
                case 5: return members.hasFlag(a, FINAL);
                default: return members.hasFlag(a, STATIC) != members.hasFlag(d, STATIC);
            }
        }

        private void findInMembers(int t) {
            boolean mustBeReady = types.isClass(t) && !types.hasFlag(t, ABSTRACT);
            for (int m = 0; m < members.count && mustBeReady; m++) {
                addIf(isFound(m) && members.hasFlag(m, ABSTRACT), 7, m);
            }
            for (int m = 0; m < members.count; m++) {
                addIf(isFound(m) && isRivalled(m), 8, m);
            }
        }

        /** Whether it is a METHOD, and a MEMBER OF the TYPE that is looked at. */
        private boolean isFound(int m) {
            return members.isMethod(m)
                    && Sets.has(methodsOf[members.group[m] - METHOD * NAMES], members.declarer[m]);
        }

        /** Whether it is an INTERFACE's METHOD with a body, beside another one of its NAME. */
        private boolean isRivalled(int m) {
            int g = members.group[m];
            int declarer = members.declarer[m];
            long plain = methodsOf[g - METHOD * NAMES] & members.overridable(g);
            return !types.isClass(declarer) && !members.hasFlag(m, ABSTRACT)
                    && Sets.has(plain, declarer) && Long.bitCount(plain) > 1;
        }
    }
}
