import java.io.IOException;
import java.util.function.Supplier;

/** The edges of promises 9 to 11 and 14: MEMBERS, how many there are, and OF which TYPE. */
public final class BoundsOfMembersTest {
    private static final int BAD = AccessJudge.BAD, NONE = AccessJudge.NONE;
    private static final int FULL = AccessJudge.FULL;
    private static final int FIELD = 0, METHOD = 1, MAKER = 2, PUBLIC = 3, STATIC = 1;
    private static final String ALL = "55555555";
    private static final String LIMITS = "MODULES (6 at most), PACKAGES (10), TYPES (40), MEMBERS "
            + "(120) have numbers 0, 1, .., each kind of its own, as they came.";
    private static final String BAD_AHEAD = "Of several the one first told in a call's comment; "
            + "BAD ahead of all.";
    private static final String NOTHING_CHANGED = "What is refused changes nothing.";
    private static final String WRONG = "BAD: a number is none that there is, or outside what is "
            + "told";
    private static Sentences doc;

    public static void main(String[] args) throws IOException {
        doc = new Sentences("BoundsOfMembersTest", args);
        memberBounds();
        memberRules();
        memberOfAKindAndNameAlready();
        memberLimits();
        memberRulesAheadOfFull();
        memberBadAheadOfRules();
        memberBadAheadOfFull();
        memberRefused();
        countBounds();
        countAtTheEdges();
        aboutBounds();
        aboutOuterOnes();
        aboutParents();
        aboutHowMany();
        ofBounds();
        ofDeclaredOnes();
        ofParentsOnesByAccess();
        ofFacesOnes();
        ofFacesOnesBesideTheParents();
        ofFacesOnesBesideLowerOnes();
        ofParentsOnesBesideLowerOnes();
        ofAsMany();
        ofRefused();
        doc.end(9, 10, 11, 14);
    }

    private static void memberBounds() {
        doc.at(9, "BAD: also no such kind (0 .. 2), NAME (0 .. 9), ACCESS, FLAGS; then the RULES; "
                + "FULL.");
        doc.taken("member, kind", 0, 2, v -> new AccessJudge().member(0, v, 0, PUBLIC, 0));
        doc.taken("member of kind 0, NAME", 0, 9,
                v -> new AccessJudge().member(0, FIELD, v, PUBLIC, 0));
        doc.taken("member of kind 1, NAME", 0, 9,
                v -> new AccessJudge().member(0, METHOD, v, PUBLIC, 0));
        doc.taken("member of kind 2, NAME", 0, 9,
                v -> new AccessJudge().member(0, MAKER, v, PUBLIC, 0));
        doc.taken("member, ACCESS", 0, 3, v -> new AccessJudge().member(0, FIELD, 0, v, 0));
        doc.taken("member, FLAGS", 0, 7, v -> new AccessJudge().member(0, FIELD, 0, PUBLIC, v));
        for (int more : new int[] {0, 1, 31, 32, 39}) {
            String types = "c".repeat(more);
            doc.taken("member, TYPE", 0, more,
                    v -> Worlds.withTypes(types).member(v, FIELD, 0, PUBLIC, 0));
        }
    }

    // INTERFACE 1, CLASS 2, ABSTRACT CLASS 3, FINAL CLASS 4, INTERFACE 5, which is ABSTRACT.
    private static AccessJudge fiveTypes() {
        AccessJudge x = Worlds.withTypes("ic");
        x.type(0, -1, 0, 3, 4);
        x.type(0, -1, 0, 3, 2);
        x.type(0, -1, 1, 3, 4);
        return x;
    }

    private static AccessJudge fullOfMembers() {
        AccessJudge x = fiveTypes();
        Worlds.addTypes(x, "cccc");
        for (int m = 0; m < 120; m++) {
            x.member(6 + m / 30, m % 3, m % 30 / 3, PUBLIC, 0);
        }
        return x;
    }

    /** A row for each ACCESS, a digit for each sum of FLAGS: the RULE that is broken, or 0. */
    private static void rules(Supplier<AccessJudge> start, int added, int t, int kind,
            String... rows) {
        for (int access = 0; access < 4; access++) {
            for (int flags = 0; flags < 8; flags++) {
                int rule = rows[access].charAt(flags) - '0';
                doc.is(Calls.text(Calls.MEMBER, t, kind, 4, access, flags),
                        start.get().member(t, kind, 4, access, flags),
                        rule == 0 ? added : -10 - rule);
            }
        }
    }

    private static void rulesOfInterfaces(Supplier<AccessJudge> start, int added) {
        doc.at(9, "5 an INTERFACE has no MAKERS; a FIELD of it is public and STATIC, a METHOD "
                + "public or private, and not FINAL;");
        for (int t = 1; t <= 5; t += 4) {
            rules(start, added, t, MAKER, ALL, ALL, ALL, ALL);
            rules(start, added, t, FIELD, ALL, ALL, ALL, "50505656");
            rules(start, added, t, METHOD, "00557755", ALL, ALL, "00550755");
        }
    }

    private static void rulesOfClasses(Supplier<AccessJudge> start, int added) {
        doc.at(9, "6 a MAKER has no FLAGS, a FIELD is not ABSTRACT;");
        String maker = "06666666";
        String field = "00006666";
        for (int t = 0; t <= 4; t += t == 0 ? 2 : 1) {
            rules(start, added, t, MAKER, maker, maker, maker, maker);
            rules(start, added, t, FIELD, field, field, field, field);
        }
        doc.at(9, "7 an ABSTRACT METHOD is none of private, STATIC, FINAL; "
                + "of a CLASS that is ABSTRACT;");
        String method = "00007777";
        rules(start, added, 0, METHOD, method, method, method, method);
        rules(start, added, 2, METHOD, method, method, method, method);
        rules(start, added, 4, METHOD, method, method, method, method);
        rules(start, added, 3, METHOD, method, "00000777", "00000777", "00000777");
    }

    private static void memberRules() {
        rulesOfInterfaces(BoundsOfMembersTest::fiveTypes, 0);
        rulesOfClasses(BoundsOfMembersTest::fiveTypes, 0);
    }

    // Each TYPE DECLARES what it may of NAME 4 already.
    private static AccessJudge allDeclared() {
        AccessJudge x = fiveTypes();
        for (int t = 0; t <= 5; t++) {
            x.member(t, FIELD, 4, PUBLIC, STATIC);
            x.member(t, METHOD, 4, PUBLIC, 0);
            x.member(t, MAKER, 4, PUBLIC, 0);
        }
        return x;
    }

    private static void memberOfAKindAndNameAlready() {
        rulesOfInterfaces(BoundsOfMembersTest::allDeclared, -18);
        rulesOfClasses(BoundsOfMembersTest::allDeclared, -18);
        doc.at(9, "Of one kind and NAME a TYPE DECLARES one at most.");
        AccessJudge x = Worlds.withTypes("cc");
        x.parent(2, 1);
        for (int m = 0; m < 30; m++) {
            doc.is("member(1, " + m / 10 + ", " + m % 10 + ", 3, 0)",
                    x.member(1, m / 10, m % 10, PUBLIC, 0), m);
        }
        doc.at(9, "8 the TYPE DECLARES one of that kind and NAME already.");
        for (int m = 0; m < 30; m++) {
            doc.is("member(1, " + m / 10 + ", " + m % 10 + ", 0, 0) again",
                    x.member(1, m / 10, m % 10, 0, 0), -18);
        }
        doc.is("member(2, 1, 0, 3, 0): a TYPE BELOW it", x.member(2, METHOD, 0, PUBLIC, 0), 30);
        doc.is("member(0, 1, 0, 3, 0): a TYPE ABOVE it", x.member(0, METHOD, 0, PUBLIC, 0), 31);
    }

    private static void memberLimits() {
        doc.at(9, LIMITS);
        AccessJudge x = Worlds.withTypes("cccc");
        for (int m = 0; m < 120; m++) {
            doc.is("member " + m, x.member(1 + m % 4, m / 4 % 3, m / 12, PUBLIC, 0), m);
            doc.is("count(3)", x.count(3), m + 1);
        }
        for (int kind = 0; kind < 3; kind++) {
            doc.is("member(0, " + kind + ", 0, 3, 0): one more", x.member(0, kind, 0, PUBLIC, 0),
                    FULL);
        }
        doc.is("count(3)", x.count(3), 120);
        doc.is("of(4, 119): the last one", x.of(4, 119), 1);
        doc.is("of(3, 119): the last one", x.of(3, 119), 0);
        doc.is("make(0, 0, 4, 9): the last one", x.make(0, 0, 4, 9), 119);
        doc.is("about(0, 5): nothing of the one more", x.about(0, 5), 0);
    }

    private static void memberRulesAheadOfFull() {
        rulesOfInterfaces(BoundsOfMembersTest::fullOfMembers, FULL);
        rulesOfClasses(BoundsOfMembersTest::fullOfMembers, FULL);
        doc.at(9, "then the RULES; FULL.");
        for (int m = 0; m < 120; m++) {
            doc.is("RULE 8 ahead of FULL", fullOfMembers().member(6 + m / 30, m % 3, m % 30 / 3,
                    PUBLIC, 0), -18);
        }
    }

    private static void memberBadAheadOfRules() {
        doc.at(9, BAD_AHEAD);
        doc.taken("member with RULE 5 broken, NAME", 0, 9,
                v -> fiveTypes().member(1, MAKER, v, PUBLIC, 7));
        doc.taken("member with RULE 5 broken, ACCESS", 0, 3,
                v -> fiveTypes().member(1, MAKER, 0, v, 0));
        doc.taken("member with RULE 5 broken, kind", 0, 2,
                v -> fiveTypes().member(1, v, 0, 1, 2));
        doc.taken("member with RULE 6 broken, FLAGS", 0, 7,
                v -> fiveTypes().member(2, MAKER, 0, PUBLIC, v));
        doc.taken("member with RULE 6 broken, TYPE", 0, 5,
                v -> fiveTypes().member(v, MAKER, 0, PUBLIC, 1));
        doc.taken("member with RULE 7 broken, FLAGS", 0, 7,
                v -> fiveTypes().member(2, METHOD, 0, 0, v));
        doc.taken("member with RULE 7 broken, NAME", 0, 9,
                v -> fiveTypes().member(2, METHOD, v, PUBLIC, 4));
        doc.taken("member with RULE 8 broken, ACCESS", 0, 3,
                v -> allDeclared().member(2, METHOD, 4, v, 0));
        doc.taken("member with RULE 8 broken, FLAGS", 0, 7,
                v -> allDeclared().member(2, METHOD, 4, PUBLIC, v));
    }

    private static void memberBadAheadOfFull() {
        doc.at(9, BAD_AHEAD);
        doc.taken("member with no room, TYPE", 0, 9,
                v -> fullOfMembers().member(v, FIELD, 0, PUBLIC, STATIC));
        doc.taken("member with no room, kind", 0, 2,
                v -> fullOfMembers().member(2, v, 0, PUBLIC, 0));
        doc.taken("member with no room, NAME", 0, 9,
                v -> fullOfMembers().member(2, FIELD, v, PUBLIC, 0));
        doc.taken("member with no room, ACCESS", 0, 3,
                v -> fullOfMembers().member(2, FIELD, 0, v, 0));
        doc.taken("member with no room, FLAGS", 0, 7,
                v -> fullOfMembers().member(2, FIELD, 0, PUBLIC, v));
    }

    private static void memberRefused() {
        doc.at(9, NOTHING_CHANGED);
        AccessJudge x = fiveTypes();
        x.member(3, METHOD, 0, PUBLIC, 4);
        doc.is("member(1, 2, 1, 3, 0)", x.member(1, MAKER, 1, PUBLIC, 0), -15);
        doc.is("member(2, 2, 1, 3, 1)", x.member(2, MAKER, 1, PUBLIC, 1), -16);
        doc.is("member(2, 1, 1, 3, 4)", x.member(2, METHOD, 1, PUBLIC, 4), -17);
        doc.is("member(3, 1, 0, 1, 1)", x.member(3, METHOD, 0, 1, STATIC), -18);
        doc.is("member(2, 0, 10, 3, 0)", x.member(2, FIELD, 10, PUBLIC, 0), BAD);
        doc.is("count(3)", x.count(3), 1);
        for (int t = 0; t <= 5; t++) {
            doc.is("about(" + t + ", 5)", x.about(t, 5), t == 3 ? 1 : 0);
        }
        doc.is("use(0, 0, 3, 1, 0): the first one stays", x.use(0, 0, 3, METHOD, 0), 0);
        doc.is("use(0, 1, 3, 1, 0): and is not STATIC", x.use(0, 1, 3, METHOD, 0), -15);
        doc.is("of(0, 1): there is no MEMBER 1", x.of(0, 1), BAD);
        doc.is("member(2, 1, 1, 3, 0): still free", x.member(2, METHOD, 1, PUBLIC, 0), 1);
        doc.is("member(2, 2, 1, 3, 0): still free", x.member(2, MAKER, 1, PUBLIC, 0), 2);
        doc.is("member(2, 1, 0, 3, 0): NAME 10 of kind 0 is none of kind 1",
                x.member(2, METHOD, 0, PUBLIC, 0), 3);
    }

    private static void countBounds() {
        doc.at(10, "How many MODULES (0), PACKAGES (1), TYPES (2), MEMBERS (3). BAD.");
        doc.taken("count(what) of a new one, what", 0, 3, v -> new AccessJudge().count(v));
        doc.taken("count(what) of a full one, what", 0, 3, v -> Worlds.full().count(v));
    }

    private static void countAtTheEdges() {
        doc.at(10, LIMITS);
        int[] least = {1, 1, 1, 0};
        int[] most = {6, 10, 40, 120};
        AccessJudge x = new AccessJudge();
        AccessJudge y = Worlds.full();
        y.module();
        y.pack(0);
        y.type(0, -1, 0, 3, 0);
        y.member(39, FIELD, 0, PUBLIC, 0);
        for (int what = 0; what < 4; what++) {
            doc.is("count(" + what + ") of a new one", x.count(what), least[what]);
            doc.is("count(" + what + ") of a full one", y.count(what), most[what]);
        }
        doc.at(10, "each kind of its own, as they came.");
        doc.is("module()", x.module(), 1);
        doc.is("type", x.type(0, -1, 0, 3, 0), 1);
        doc.is("type", x.type(0, -1, 0, 3, 0), 2);
        doc.is("member", x.member(2, FIELD, 0, PUBLIC, 0), 0);
        doc.is("pack", x.pack(1), 1);
        int[] due = {2, 2, 3, 1};
        for (int what = 0; what < 4; what++) {
            doc.is("count(" + what + ")", x.count(what), due[what]);
        }
    }

    private static void aboutBounds() {
        doc.at(11, WRONG);
        doc.taken("about(t, 0) of a new one, t", 0, 0, v -> new AccessJudge().about(v, 0));
        doc.taken("about(0, what) of a new one, what", 0, 6, v -> new AccessJudge().about(0, v));
        doc.taken("about(39, what), what", 0, 6, v -> Worlds.full().about(39, v));
        for (int what = 0; what <= 6; what++) {
            int asked = what;
            doc.taken("about(t, " + what + "), t", 0, 39, v -> Worlds.full().about(v, asked));
            doc.taken("about(t, " + what + "), t", 0, 31,
                    v -> Worlds.inLine(31).about(v, asked));
        }
    }

    private static void aboutOuterOnes() {
        doc.at(11, "Its TOP is the one at the top that one comes to by OUTERS "
                + "(itself, if it is that).");
        AccessJudge x = Worlds.nested(39);
        for (int t = 1; t <= 39; t++) {
            doc.is("about(" + t + ", 1): its OUTER one", x.about(t, 1), t == 1 ? NONE : t - 1);
            doc.is("about(" + t + ", 2): its TOP", x.about(t, 2), 1);
        }
        AccessJudge y = new AccessJudge();
        y.type(0, 0, 0, 0, 0);
        y.type(0, 1, 0, 0, 0);
        doc.is("about(0, 1)", y.about(0, 1), NONE);
        doc.is("about(1, 1): in THE ROOT", y.about(1, 1), 0);
        doc.is("about(2, 2): THE ROOT may be a TOP", y.about(2, 2), 0);
        y.pack(0);
        y.type(1, -1, 0, 3, 0);
        doc.is("about(3, 0): its PACKAGE", y.about(3, 0), 1);
        doc.is("about(3, 2): its own TOP", y.about(3, 2), 3);
    }

    private static void aboutParents() {
        doc.at(11, "3 its PARENT (NONE: THE ROOT's, an INTERFACE's)");
        AccessJudge x = Worlds.withTypes("cicc");
        x.face(1, 2);
        x.parent(4, 3);
        doc.is("about(0, 3)", x.about(0, 3), NONE);
        doc.is("about(2, 3)", x.about(2, 3), NONE);
        doc.is("about(1, 3): THE ROOT, until another one is told", x.about(1, 3), 0);
        doc.is("about(4, 3)", x.about(4, 3), 3);
    }

    private static void aboutHowMany() {
        doc.at(11, "4 how many FACES, 5 how many MEMBERS are OF it, 6 how many TYPES are BELOW "
                + "it.");
        AccessJudge x = Worlds.ofManyFaces(FIELD, STATIC);
        doc.is("about(1, 4)", x.about(1, 4), 4);
        doc.is("about(6, 4)", x.about(6, 4), 0);
        doc.is("about(1, 5): all that there are", x.about(1, 5), 120);
        doc.is("about(2, 5)", x.about(2, 5), 30);
        doc.is("about(6, 5)", x.about(6, 5), 10);
        doc.is("about(0, 5)", x.about(0, 5), 0);
        doc.is("about(1, 6)", x.about(1, 6), 0);
        doc.is("about(17, 6): each once", x.about(17, 6), 2);
        AccessJudge y = Worlds.inLine(39);
        for (int t = 0; t <= 39; t++) {
            doc.is("about(" + t + ", 6)", y.about(t, 6), 39 - t);
        }
        AccessJudge z = Worlds.withTypes("iiic");
        z.face(2, 1);
        z.face(3, 1);
        z.face(4, 2);
        z.face(4, 3);
        doc.is("about(1, 6): one that is BELOW by two ways counts once", z.about(1, 6), 3);
        doc.is("about(0, 6): no INTERFACE is BELOW THE ROOT", z.about(0, 6), 1);
    }

    private static void ofBounds() {
        doc.at(14, "Whether a MEMBER is OF a TYPE: 1, 0. BAD.");
        doc.taken("of(0, member) of a new one, member", 0, -1, v -> new AccessJudge().of(0, v));
        doc.taken("of(t, 0) of a new one, t", 0, -1, v -> new AccessJudge().of(v, 0));
        doc.taken("of(39, member), member", 0, 119, v -> Worlds.full().of(39, v));
        doc.taken("of(0, member), member", 0, 119, v -> Worlds.full().of(0, v));
        doc.taken("of(t, 119), t", 0, 39, v -> Worlds.full().of(v, 119));
        doc.taken("of(t, 0), t", 0, 39, v -> Worlds.full().of(v, 0));
    }

    private static void ofDeclaredOnes() {
        doc.at(14, "MEMBERS OF A TYPE are those that it DECLARES, and those FIELDS and METHODS that"
                + " it INHERITS");
        AccessJudge x = Worlds.withTypes("cc");
        x.parent(2, 1);
        for (int m = 0; m < 12; m++) {
            x.member(1, m % 3, m / 3, m / 3, 0);
        }
        for (int m = 0; m < 12; m++) {
            doc.is("of(1, " + m + "): its own, of each kind and ACCESS", x.of(1, m), 1);
            doc.is("of(0, " + m + "): not of the one ABOVE", x.of(0, m), 0);
        }
        for (int m = 2; m < 12; m += 3) {
            doc.is("of(2, " + m + "): no MAKERS are INHERITED", x.of(2, m), 0);
        }
        doc.at(14, "of a kind and NAME of which it DECLARES none");
        x.member(2, METHOD, 3, 0, STATIC);
        doc.is("of(2, 10): 2 DECLARES a METHOD of that NAME", x.of(2, 10), 0);
        doc.is("of(2, 9): but no FIELD", x.of(2, 9), 1);
        doc.is("of(2, 7): nor a METHOD of another NAME", x.of(2, 7), 1);
        doc.is("about(2, 5)", x.about(2, 5), 6);
    }

    private static void ofParentsOnesByAccess() {
        doc.at(14, "of the PARENT: not private; with ACCESS package only, if their DECLARER has the"
                + " PACKAGE of this TYPE;");
        AccessJudge x = Worlds.withPacks(1);
        for (int t = 1; t <= 4; t++) {
            x.type(t == 2 ? 1 : 0, -1, 0, 3, 0);
        }
        x.parent(2, 1);
        x.parent(3, 2);
        x.parent(4, 1);
        for (int access = 0; access < 4; access++) {
            x.member(1, FIELD, access, access, 0);
        }
        int[] far = {0, 0, 1, 1};
        int[] near = {0, 1, 1, 1};
        for (int access = 0; access < 4; access++) {
            doc.is("of(2, " + access + "): another PACKAGE", x.of(2, access), far[access]);
            doc.is("of(3, " + access + "): this PACKAGE, through another", x.of(3, access),
                    far[access]);
            doc.is("of(4, " + access + "): this PACKAGE", x.of(4, access), near[access]);
        }
        AccessJudge y = Worlds.nested(2);
        y.parent(2, 1);
        y.member(1, FIELD, 0, 0, 0);
        doc.is("of(2, 0): private, though within", y.of(2, 0), 0);
    }

    private static void ofFacesOnes() {
        doc.at(14, "of a FACE: FIELDS; METHODS not private, not STATIC;");
        AccessJudge x = Worlds.withTypes("ici");
        x.face(2, 1);
        x.face(3, 1);
        x.member(1, FIELD, 0, PUBLIC, STATIC);
        x.member(1, METHOD, 0, PUBLIC, 0);
        x.member(1, METHOD, 1, PUBLIC, 4);
        x.member(1, METHOD, 2, PUBLIC, STATIC);
        x.member(1, METHOD, 3, 0, 0);
        x.member(1, METHOD, 4, 0, STATIC);
        int[] due = {1, 1, 1, 0, 0, 0};
        for (int m = 0; m < 6; m++) {
            doc.is("of(1, " + m + ")", x.of(1, m), 1);
            doc.is("of(2, " + m + ")", x.of(2, m), due[m]);
            doc.is("of(3, " + m + ")", x.of(3, m), due[m]);
        }
    }

    // CLASS 1 with METHOD 0, CLASS 2 BELOW it with FACE 3, whose METHOD 1 has the same NAME.
    private static AccessJudge parentAndFace(int pack, int access, int flags) {
        AccessJudge x = Worlds.withPacks(1);
        x.type(pack, -1, 0, 3, 4);
        Worlds.addTypes(x, "ci");
        x.parent(2, 1);
        x.face(2, 3);
        x.member(1, METHOD, 0, access, flags);
        x.member(3, METHOD, 0, PUBLIC, 0);
        return x;
    }

    private static void ofFacesOnesBesideTheParents() {
        doc.at(14, "a METHOD not, if a METHOD of its NAME that a CLASS DECLARES, and that is not "
                + "ABSTRACT, is INHERITED from the PARENT;");
        for (int access = 0; access < 4; access++) {
            for (int pack = 0; pack < 2; pack++) {
                boolean isInherited = access >= 2 || access == 1 && pack == 0;
                doc.is("of(2, 1), the PARENT's has ACCESS " + access + " in PACKAGE " + pack,
                        parentAndFace(pack, access, 0).of(2, 1), isInherited ? 0 : 1);
                doc.is("of(2, 1), the PARENT's is STATIC, too",
                        parentAndFace(pack, access, STATIC).of(2, 1), isInherited ? 0 : 1);
                if (access > 0) {
                    doc.is("of(2, 1), the PARENT's is ABSTRACT",
                            parentAndFace(pack, access, 4).of(2, 1), 1);
                }
            }
        }
        AccessJudge x = Worlds.withTypes("cii");
        x.member(0, FIELD, 0, PUBLIC, 0);
        x.member(0, METHOD, 1, PUBLIC, 0);
        x.face(1, 2);
        x.member(2, FIELD, 0, PUBLIC, STATIC);
        x.member(2, METHOD, 0, PUBLIC, 0);
        doc.is("of(1, 2): FIELDS in any case", x.of(1, 2), 1);
        doc.is("of(1, 3): the PARENT's METHOD has another NAME", x.of(1, 3), 1);
        AccessJudge y = Worlds.withTypes("icci");
        y.face(2, 1);
        y.parent(3, 2);
        y.face(3, 4);
        y.member(1, METHOD, 0, PUBLIC, 0);
        y.member(4, METHOD, 0, PUBLIC, 0);
        doc.is("of(3, 0): the PARENT's, of an INTERFACE", y.of(3, 0), 1);
        doc.is("of(3, 1): no CLASS DECLARES the PARENT's", y.of(3, 1), 1);
    }

    // INTERFACE 1 with METHOD 0, INTERFACE 2 BELOW it with METHOD 1, CLASS 3 with FACES 1 and 2.
    private static AccessJudge twoFaces(int access, int flags) {
        AccessJudge x = Worlds.withTypes("iic");
        x.face(2, 1);
        x.face(3, 1);
        x.face(3, 2);
        x.member(1, METHOD, 0, PUBLIC, 0);
        x.member(2, METHOD, 0, access, flags);
        return x;
    }

    private static void ofFacesOnesBesideLowerOnes() {
        doc.at(14, "nor if there is a METHOD of its NAME, neither private nor STATIC, whose "
                + "DECLARER is BELOW its own, and which is a MEMBER OF the PARENT or of a FACE.");
        doc.is("of(3, 0), METHOD 1 public", twoFaces(PUBLIC, 0).of(3, 0), 0);
        doc.is("of(3, 1), METHOD 1 public", twoFaces(PUBLIC, 0).of(3, 1), 1);
        doc.is("of(3, 0), METHOD 1 ABSTRACT", twoFaces(PUBLIC, 4).of(3, 0), 0);
        doc.is("of(3, 0), METHOD 1 STATIC", twoFaces(PUBLIC, STATIC).of(3, 0), 1);
        doc.is("of(3, 0), METHOD 1 private", twoFaces(0, 0).of(3, 0), 1);
        AccessJudge x = Worlds.withPacks(1);
        Worlds.addTypes(x, "i");
        x.type(1, -1, 0, 3, 4);
        Worlds.addTypes(x, "cc");
        x.face(2, 1);
        x.parent(3, 2);
        x.face(3, 1);
        x.face(4, 1);
        x.member(1, METHOD, 0, PUBLIC, 4);
        x.member(2, METHOD, 0, 1, 4);
        doc.is("of(3, 1): of the PARENT, but not INHERITED", x.of(3, 1), 0);
        doc.is("of(3, 0): one of the PARENT is BELOW it", x.of(3, 0), 0);
        doc.is("of(4, 0): none is", x.of(4, 0), 1);
    }

    private static void ofParentsOnesBesideLowerOnes() {
        doc.at(14, "of the PARENT: not private; with ACCESS package only, if their DECLARER has the"
                + " PACKAGE of this TYPE;");
        AccessJudge x = Worlds.withTypes("iicc");
        x.face(2, 1);
        x.face(3, 1);
        x.parent(4, 3);
        x.member(1, METHOD, 0, PUBLIC, 0);
        x.member(2, METHOD, 0, PUBLIC, 0);
        doc.is("of(4, 0)", x.of(4, 0), 1);
        x.face(4, 2);
        doc.is("of(4, 1): of a FACE", x.of(4, 1), 1);
        doc.is("of(4, 0): of the PARENT, though its DECLARER is ABOVE", x.of(4, 0), 1);
        x.face(4, 1);
        doc.is("of(4, 0): of a FACE that it does not come from, but of the PARENT", x.of(4, 0), 1);
        doc.is("about(4, 5)", x.about(4, 5), 2);
        x.face(3, 2);
        doc.is("of(3, 0): of FACES alone", x.of(3, 0), 0);
        doc.is("of(4, 0): not OF the PARENT any more", x.of(4, 0), 0);
        doc.is("about(4, 5)", x.about(4, 5), 1);
    }

    private static void ofAsMany() {
        doc.at(14, LIMITS);
        AccessJudge x = Worlds.ofManyFaces(METHOD, 0);
        for (int m = 0; m < 120; m++) {
            doc.is("of(1, " + m + ")", x.of(1, m), 1);
            doc.is("of(5, " + m + ")", x.of(5, m), m >= 90 ? 1 : 0);
        }
        AccessJudge y = Worlds.full();
        for (int m = 0; m < 120; m++) {
            doc.is("of(39, " + m + "): from 28 ABOVE", y.of(39, m), m >= 110 ? 1 : 0);
        }
    }

    private static void ofRefused() {
        doc.at(14, NOTHING_CHANGED);
        AccessJudge x = Worlds.withTypes("c");
        x.member(0, FIELD, 0, PUBLIC, 0);
        doc.is("of(1, 1)", x.of(1, 1), BAD);
        doc.is("of(2, 0)", x.of(2, 0), BAD);
        doc.is("of(2, 1)", x.of(2, 1), BAD);
        doc.is("of(1, 0)", x.of(1, 0), 1);
        doc.is("count(2)", x.count(2), 2);
        doc.is("count(3)", x.count(3), 1);
    }
}
