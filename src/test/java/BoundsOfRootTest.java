import java.io.IOException;

/** The edges at number 0: THE ROOT as OUTER one, PARENT and DECLARER, and MEMBER 0. */
public final class BoundsOfRootTest {
    private static final int ROOT = 0, TOP = -1, CLASS = 0, INTERFACE = 1;
    private static final int STATIC = 1, FINAL = 2;
    private static final int PRIVATE = 0, PACKAGE = 1, PROTECTED = 2, PUBLIC = 3;
    private static final int FIELD = 0, METHOD = 1, MAKER = 2;
    private static Sentences doc;

    public static void main(String[] args) throws IOException {
        doc = new Sentences("BoundsOfRootTest", args);
        openWithinTheRoot();
        ofTheRootsOnes();
        ofFacesOnesBesideTheRoots();
        useOfTheRootsOnes();
        useByNameAloneWithinTheRoot();
        useBySuperOfTheRootsOnes();
        makeOfTheRootsMakers();
        overridesTheRootsMethods();
        chooseBelowTheRootsMethods();
        faultsAgainstTheRootsMethods();
        doc.end(13, 14, 15, 16, 17, 18, 19, 20);
    }

    private static boolean isNear(int access, int pack) {
        return access >= PROTECTED || access == PACKAGE && pack == 0;
    }

    // CLASSES 1 of PACKAGE 0 and 2 of PACKAGE 1, INTERFACE 3, CLASS 4 in THE ROOT; of THE ROOT are
    // a FIELD, a METHOD and a MAKER of each ACCESS, which is their NAME.
    private static AccessJudge rootWithAll() {
        AccessJudge x = Worlds.withPacks(1);
        x.type(0, TOP, CLASS, PUBLIC, 0);
        x.type(1, TOP, CLASS, PUBLIC, 0);
        x.type(0, TOP, INTERFACE, PUBLIC, 0);
        x.type(0, ROOT, CLASS, PUBLIC, 0);
        for (int m = 0; m < 12; m++) {
            x.member(ROOT, m / 4, m % 4, m % 4, 0);
        }
        return x;
    }

    private static void openWithinTheRoot() {
        doc.at(13, "private: both have the same TOP; package: f has its PACKAGE; protected: that, "
                + "or f, or one of the OUTERS around f, is t's OUTER one or BELOW it; public: in "
                + "any case.");
        AccessJudge x = Worlds.withModules(1);
        x.pack(1);
        for (int access = 0; access < 4; access++) {
            x.type(0, ROOT, CLASS, access, 0);
        }
        x.type(0, TOP, CLASS, PUBLIC, 0);
        x.type(1, TOP, CLASS, PUBLIC, 0);
        x.type(1, TOP, INTERFACE, PUBLIC, 0);
        x.type(1, 7, CLASS, PUBLIC, STATIC);
        for (int access = 0; access < 4; access++) {
            int t = 1 + access;
            doc.is("open(0, " + t + "): to THE ROOT", x.open(ROOT, t), 1);
            doc.is("open(1, " + t + "): within it", x.open(1, t), 1);
            doc.is("open(5, " + t + "): beside it", x.open(5, t), access == PRIVATE ? 0 : 1);
            doc.is("open(6, " + t + "): a CLASS elsewhere, BELOW it", x.open(6, t),
                    access >= PROTECTED ? 1 : 0);
            doc.is("open(7, " + t + "): an INTERFACE elsewhere", x.open(7, t),
                    access == PUBLIC ? 1 : 0);
            doc.is("open(8, " + t + "): a CLASS in that", x.open(8, t),
                    access >= PROTECTED ? 1 : 0);
        }
    }

    private static void ofTheRootsOnes() {
        doc.at(14, "of the PARENT: not private; with ACCESS package only, if their DECLARER has the"
                + " PACKAGE of this TYPE;");
        AccessJudge x = rootWithAll();
        for (int m = 0; m < 12; m++) {
            boolean isMaker = m / 4 == MAKER;
            doc.is("of(0, " + m + ")", x.of(ROOT, m), 1);
            doc.is("of(1, " + m + ")", x.of(1, m), !isMaker && isNear(m % 4, 0) ? 1 : 0);
            doc.is("of(2, " + m + ")", x.of(2, m), !isMaker && isNear(m % 4, 1) ? 1 : 0);
            doc.is("of(3, " + m + "): an INTERFACE has no PARENT", x.of(3, m), 0);
            doc.is("of(4, " + m + "): within it", x.of(4, m),
                    !isMaker && isNear(m % 4, 0) ? 1 : 0);
        }
        int[] due = {12, 6, 4, 0, 6};
        for (int t = 0; t <= 4; t++) {
            doc.is("about(" + t + ", 5)", x.about(t, 5), due[t]);
        }
    }

    // THE ROOT with METHOD 0; CLASS 1 of a PACKAGE with FACE 2, whose METHOD 1 has the same NAME.
    private static AccessJudge rootAndFace(int pack, int access, int flags) {
        AccessJudge x = Worlds.withPacks(1);
        x.type(pack, TOP, CLASS, PUBLIC, 0);
        Worlds.addTypes(x, "i");
        x.face(1, 2);
        x.member(ROOT, METHOD, 0, access, flags);
        x.member(2, METHOD, 0, PUBLIC, 0);
        return x;
    }

    private static void ofFacesOnesBesideTheRoots() {
        doc.at(14, "a METHOD not, if a METHOD of its NAME that a CLASS DECLARES, and that is not "
                + "ABSTRACT, is INHERITED from the PARENT;");
        for (int pack = 0; pack < 2; pack++) {
            for (int access = 0; access < 4; access++) {
                for (int flags = 0; flags < 4; flags++) {
                    AccessJudge x = rootAndFace(pack, access, flags);
                    boolean isInherited = isNear(access, pack);
                    String which = ", ACCESS " + access + ", FLAGS " + flags + ", PACKAGE " + pack;
                    doc.is("of(1, 0)" + which, x.of(1, 0), isInherited ? 1 : 0);
                    doc.is("of(1, 1)" + which, x.of(1, 1), isInherited ? 0 : 1);
                    doc.is("about(1, 5)" + which, x.about(1, 5), 1);
                }
            }
        }
    }

    private static void useOfTheRootsOnes() {
        doc.at(15, "A MEMBER m is OPEN to f: private: f and its DECLARER have the same TOP; "
                + "package: f has the PACKAGE of its DECLARER; public: in any case; protected: "
                + "as package");
        AccessJudge x = rootWithAll();
        for (int access = 0; access < 4; access++) {
            doc.is("from THE ROOT", x.use(ROOT, 0, ROOT, FIELD, access), access);
            doc.is("from within", x.use(4, 0, ROOT, FIELD, access), access);
            doc.is("from its PACKAGE", x.use(1, 0, ROOT, FIELD, access),
                    access == PRIVATE ? -13 : access);
            doc.is("from an INTERFACE of its PACKAGE", x.use(3, 0, ROOT, FIELD, access),
                    access == PRIVATE ? -13 : access);
            doc.is("from elsewhere, by an object of THE ROOT", x.use(2, 0, ROOT, FIELD, access),
                    access == PUBLIC ? access : -13);
            doc.is("from elsewhere, by an object of f", x.use(2, 0, 2, FIELD, access),
                    access >= PROTECTED ? access : -12);
            doc.is("by THE ROOT's name", x.use(ROOT, 1, ROOT, FIELD, access), -15);
        }
    }

    // In THE ROOT: CLASS 1, INTERFACE 2; STATIC CLASSES 3 in 1 and 4 in 2; CLASS 5 beside it.
    private static void useByNameAloneWithinTheRoot() {
        doc.at(15, "2: by the name alone: q is then the first one of f and the OUTERS around it, "
                + "from f on, OF which there is a MEMBER of that kind and NAME (f, if there is "
                + "none);");
        AccessJudge x = new AccessJudge();
        x.type(0, ROOT, CLASS, PRIVATE, 0);
        x.type(0, ROOT, INTERFACE, PUBLIC, STATIC);
        x.type(0, 1, CLASS, PRIVATE, STATIC);
        x.type(0, 2, CLASS, PUBLIC, STATIC);
        Worlds.addTypes(x, "c");
        x.member(ROOT, FIELD, 0, PRIVATE, 0);
        x.member(ROOT, FIELD, 1, PRIVATE, STATIC);
        x.member(ROOT, METHOD, 0, PUBLIC, 0);
        x.member(ROOT, METHOD, 1, PUBLIC, STATIC);
        int[][] due = {{0, 1, 2, 3}, {0, 1, 2, 3}, {-15, 1, -15, 3}, {-15, 1, 2, 3}, {-15, 1, 2, 3},
            {-12, -12, 2, 3}};
        for (int f = 0; f <= 5; f++) {
            for (int m = 0; m < 4; m++) {
                doc.is(Calls.text(Calls.USE, f, 2, 0, m / 2, m % 2), x.use(f, 2, 0, m / 2, m % 2),
                        due[f][m]);
            }
        }
    }

    private static void useBySuperOfTheRootsOnes() {
        doc.at(15, "3: by super: q is f's PARENT then.");
        AccessJudge x = rootWithAll();
        for (int access = 0; access < 4; access++) {
            int method = 4 + access;
            doc.is("from its PACKAGE", x.use(1, 3, 0, METHOD, access),
                    access == PRIVATE ? -13 : method);
            doc.is("from elsewhere", x.use(2, 3, 0, METHOD, access),
                    access >= PROTECTED ? method : -13);
            doc.is("from within", x.use(4, 3, 0, METHOD, access), method);
        }
    }

    private static void makeOfTheRootsMakers() {
        doc.at(16, "3 it is not to be used by f: private: not the same TOP; package: not the "
                + "PACKAGE of q; protected: not that PACKAGE, and by new (how 0);");
        AccessJudge x = rootWithAll();
        for (int access = 0; access < 4; access++) {
            int maker = 8 + access;
            for (int how = 0; how <= 2; how++) {
                boolean isFarEnough = access == PUBLIC || access == PROTECTED && how > 0;
                doc.is("from its PACKAGE, how " + how, x.make(1, how, ROOT, access),
                        access == PRIVATE ? -13 : maker);
                doc.is("from elsewhere, how " + how, x.make(2, how, ROOT, access),
                        isFarEnough ? maker : -13);
                doc.is("from within, how " + how, x.make(4, how, ROOT, access), maker);
                doc.is("from THE ROOT, how " + how, x.make(ROOT, how, ROOT, access),
                        how == 2 ? -11 : maker);
                doc.is("from an INTERFACE, how " + how, x.make(3, how, ROOT, access),
                        how == 2 ? -11 : access == PRIVATE ? -13 : maker);
            }
        }
    }

    // METHOD 0 is THE ROOT's, METHOD 1 of CLASS 1, METHOD 2 of INTERFACE 2, which is no FACE.
    private static AccessJudge rootAndClass(int pack, int access, int flags, int ownAccess,
            int ownFlags) {
        AccessJudge x = Worlds.withPacks(1);
        x.type(pack, TOP, CLASS, PUBLIC, 0);
        Worlds.addTypes(x, "i");
        x.member(ROOT, METHOD, 0, access, flags);
        x.member(1, METHOD, 0, ownAccess, ownFlags);
        x.member(2, METHOD, 0, PUBLIC, 0);
        return x;
    }

    private static void overridesTheRootsMethods() {
        doc.at(17, "both have one NAME, neither is STATIC or private, the DECLARER of d is BELOW "
                + "that of a, and: a is public or protected; or both DECLARERS have one PACKAGE;");
        for (int pack = 0; pack < 2; pack++) {
            for (int access = 0; access < 4; access++) {
                for (int bits = 0; bits < 4; bits++) {
                    AccessJudge x = rootAndClass(pack, access, bits & 1, PUBLIC, bits >> 1);
                    String which = ", ACCESS " + access + ", STATIC " + bits + ", PACKAGE " + pack;
                    doc.is("overrides(1, 0)" + which, x.overrides(1, 0),
                            isNear(access, pack) && bits == 0 ? 1 : 0);
                    doc.is("overrides(0, 1)" + which, x.overrides(0, 1), 0);
                    doc.is("overrides(0, 0)" + which, x.overrides(0, 0), 0);
                    doc.is("overrides(2, 0): no INTERFACE is BELOW THE ROOT" + which,
                            x.overrides(2, 0), 0);
                    doc.is("overrides(0, 2)" + which, x.overrides(0, 2), 0);
                }
            }
        }
    }

    private static void chooseBelowTheRootsMethods() {
        doc.at(18, "Else of t, its PARENT, and so on, the first that DECLARES m, or a METHOD that "
                + "OVERRIDES m,");
        for (int pack = 0; pack < 2; pack++) {
            for (int access = 0; access < 4; access++) {
                AccessJudge x = rootAndClass(pack, access, 0, PUBLIC, 0);
                String which = ", ACCESS " + access + ", PACKAGE " + pack;
                doc.is("choose(0, 1)" + which, x.choose(0, 1), isNear(access, pack) ? 1 : 0);
                doc.is("choose(0, 0)" + which, x.choose(0, ROOT), 0);
            }
        }
        doc.at(18, "or (when m's DECLARER is an INTERFACE) any METHOD of m's NAME that is neither "
                + "private nor STATIC: that one.");
        for (int access = 0; access < 4; access++) {
            doc.is("choose(1, 1), THE ROOT's has ACCESS " + access,
                    rootAndFace(1, access, 0).choose(1, 1), access == PRIVATE ? 1 : 0);
            doc.is("choose(1, 1), THE ROOT's is STATIC",
                    rootAndFace(1, access, STATIC).choose(1, 1), 1);
        }
    }

    // CLASS 1 with the METHOD d, against THE ROOT's, a: one of both is MEMBER 0, as told.
    private static void faultsAgainst(int d, int pack, int access, int flags, int ownAccess,
            int ownFlags) {
        AccessJudge x = Worlds.withPacks(1);
        x.type(pack, TOP, CLASS, PUBLIC, 0);
        if (d == 0) {
            x.member(1, METHOD, 0, ownAccess, ownFlags);
        }
        x.member(ROOT, METHOD, 0, access, flags);
        if (d == 1) {
            x.member(1, METHOD, 0, ownAccess, ownFlags);
        }
        boolean isMet = isNear(access, pack);
        boolean[] broken = {isMet && access > ownAccess, isMet && (flags & FINAL) != 0,
            isMet && (flags & STATIC) != (ownFlags & STATIC)};
        String which = ", d " + d + ", PACKAGE " + pack + ", a " + access + " " + flags + ", d "
                + ownAccess + " " + ownFlags;
        int many = 0;
        for (int code = 4; code <= 6; code++) {
            if (broken[code - 4]) {
                doc.is("fault(1, " + many + ", 0)" + which, x.fault(1, many, 0), code);
                doc.is("fault(1, " + many + ", 1)" + which, x.fault(1, many, 1), d);
                many++;
            }
        }
        doc.is("check(1)" + which, x.check(1), many);
        doc.is("check(0)" + which, x.check(ROOT), 0);
    }

    private static void faultsAgainstTheRootsMethods() {
        String codes = "4 there is one with greater ACCESS than d; 5 there is one that is FINAL; 6 "
                + "there is one such that just one of both is STATIC (each once for each d);";
        for (int d = 0; d < 2; d++) {
            doc.at(19 + d, codes);
            for (int n = 0; n < 2 * 16 * 16; n++) {
                faultsAgainst(d, n & 1, n >> 1 & 3, n >> 3 & 3, n >> 5 & 3, n >> 7 & 3);
            }
        }
    }
}
