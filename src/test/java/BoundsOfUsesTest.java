import java.io.IOException;

/** The edges of promises 15 and 16: which MEMBER a use means, and which MAKER. */
public final class BoundsOfUsesTest {
    private static final int BAD = AccessJudge.BAD;
    private static final int TOP = -1, CLASS = 0, STATIC = 1, FINAL = 2, ABSTRACT = 4;
    private static final int PRIVATE = 0, PACKAGE = 1, PROTECTED = 2, PUBLIC = 3;
    private static final int FIELD = 0, METHOD = 1, MAKER = 2;
    private static final String BAD_AHEAD = "Of several the one first told in a call's comment; "
            + "BAD ahead of all.";
    private static final String NOTHING_CHANGED = "What is refused changes nothing.";
    private static final String FIRST = "The MEMBER that is meant, or -10 less a code, the first of"
            + " these that is so:";
    private static final String OUTWARDS = "2: by the name alone: q is then the first one of f and "
            + "the OUTERS around it, from f on, OF which there is a MEMBER of that kind and NAME "
            + "(f, if there is none);";
    private static Sentences doc;

    public static void main(String[] args) throws IOException {
        doc = new Sentences("BoundsOfUsesTest", args);
        useBounds();
        useBoundsOfAFullOne();
        useFreeArguments();
        useBadAheadOfCodes();
        useNotOpenOrNoParent();
        useNotThere();
        useByAccess();
        useOfProtected();
        useOfFields();
        useOfMethods();
        useNotStaticByName();
        useByNameAloneOutwards();
        useByNameAloneThroughStatic();
        useOfAbstractBySuper();
        useFirstOfSeveralCodes();
        useRefused();
        makeBounds();
        makeFreeArguments();
        makeBadAheadOfCodes();
        makeNotOpenOrNoParent();
        makeNotThere();
        makeByAccess();
        makeBySuperByAccess();
        makeOfAbstractAndFinal();
        makeFirstOfSeveralCodes();
        makeRefused();
        doc.end(15, 16);
    }

    private static void useBounds() {
        doc.at(15, "BAD: no such f, how (0 .. 3), q (with how 0, 1), kind (0, 1), NAME.");
        doc.taken("use of a new one, f", 0, 0, v -> new AccessJudge().use(v, 0, 0, 0, 0));
        doc.taken("use of a new one, how", 0, 3, v -> new AccessJudge().use(0, v, 0, 0, 0));
        doc.taken("use by an object, q", 0, 0, v -> new AccessJudge().use(0, 0, v, 0, 0));
        doc.taken("use by q's name, q", 0, 0, v -> new AccessJudge().use(0, 1, v, 0, 0));
        for (int how = 0; how <= 3; how++) {
            int by = how;
            doc.taken("use, kind", 0, 1, v -> new AccessJudge().use(0, by, 0, v, 0));
            doc.taken("use of a FIELD, NAME", 0, 9, v -> new AccessJudge().use(0, by, 0, 0, v));
            doc.taken("use of a METHOD, NAME", 0, 9, v -> new AccessJudge().use(0, by, 0, 1, v));
        }
    }

    private static void useBoundsOfAFullOne() {
        doc.at(15, "BAD: no such f, how (0 .. 3), q (with how 0, 1), kind (0, 1), NAME.");
        for (int how = 0; how <= 3; how++) {
            int by = how;
            doc.taken("use with how " + how + ", f", 0, 39,
                    v -> Worlds.full().use(v, by, 39, METHOD, 9));
            doc.taken("use with how " + how + ", kind", 0, 1,
                    v -> Worlds.full().use(39, by, 39, v, 9));
            doc.taken("use with how " + how + ", NAME", 0, 9,
                    v -> Worlds.full().use(39, by, 39, METHOD, v));
        }
        doc.taken("use by an object, q", 0, 39, v -> Worlds.full().use(0, 0, v, METHOD, 0));
        doc.taken("use by q's name, q", 0, 39, v -> Worlds.full().use(0, 1, v, METHOD, 0));
        doc.taken("use, how", 0, 3, v -> Worlds.full().use(39, v, 39, METHOD, 0));
        AccessJudge x = Worlds.full();
        doc.is("use(39, 0, 39, 1, 9): of the last NAME", x.use(39, 0, 39, METHOD, 9), 119);
        doc.is("use(39, 0, 39, 1, 0): of the first NAME", x.use(39, 0, 39, METHOD, 0), 110);
        doc.is("use(0, 0, 0, 1, 0): the first one", x.use(0, 0, 0, METHOD, 0), 0);
    }

    private static void useFreeArguments() {
        doc.at(15, "2: by the name alone: q is then the first one of f and the OUTERS around it");
        doc.free("use by the name alone, q", 119, v -> Worlds.full().use(39, 2, v, METHOD, 9));
        doc.free("use by the name alone, q", -12, v -> new AccessJudge().use(0, 2, v, METHOD, 9));
        doc.at(15, "3: by super: q is f's PARENT then.");
        doc.free("use by super, q", 119, v -> Worlds.full().use(39, 3, v, METHOD, 9));
        doc.free("use by super, q", -11, v -> new AccessJudge().use(0, 3, v, METHOD, 9));
    }

    // PACKAGE 1 has CLASS 1, which is not OPEN to THE ROOT, with FIELD 0.
    private static AccessJudge notOpen() {
        AccessJudge x = Worlds.withPacks(1);
        x.type(1, TOP, CLASS, PACKAGE, 0);
        x.member(1, FIELD, 0, PRIVATE, 0);
        return x;
    }

    private static void useBadAheadOfCodes() {
        doc.at(15, BAD_AHEAD);
        doc.is("use(0, 0, 1, 0, 0): code 1", notOpen().use(0, 0, 1, FIELD, 0), -11);
        for (int how = 0; how <= 1; how++) {
            int by = how;
            doc.taken("use with code 1, f", 0, 1, v -> notOpen().use(v, by, 1, FIELD, 0));
            doc.taken("use with code 1, q", 0, 1, v -> notOpen().use(0, by, v, FIELD, 0));
            doc.taken("use with code 1, kind", 0, 1, v -> notOpen().use(0, by, 1, v, 0));
            doc.taken("use with code 1, NAME", 0, 9, v -> notOpen().use(0, by, 1, FIELD, v));
        }
        doc.taken("use with no PARENT, kind", 0, 1, v -> notOpen().use(0, 3, 0, v, 0));
        doc.taken("use with no PARENT, NAME", 0, 9, v -> notOpen().use(0, 3, 0, FIELD, v));
        doc.taken("use with no MEMBER, kind", 0, 1, v -> notOpen().use(0, 2, 0, v, 5));
    }

    private static void useNotOpenOrNoParent() {
        doc.at(15, "1 (how 0, 1) q is not OPEN to f; (how 3) f has no PARENT;");
        AccessJudge x = Worlds.withPacks(1);
        x.type(1, TOP, CLASS, PACKAGE, 0);
        Worlds.addTypes(x, "ci");
        x.member(1, FIELD, 0, PUBLIC, STATIC);
        doc.is("use(2, 0, 1, 0, 0)", x.use(2, 0, 1, FIELD, 0), -11);
        doc.is("use(2, 1, 1, 0, 0)", x.use(2, 1, 1, FIELD, 0), -11);
        doc.is("use(1, 0, 1, 0, 0)", x.use(1, 0, 1, FIELD, 0), 0);
        doc.is("use(0, 3, 0, 0, 0): THE ROOT", x.use(0, 3, 0, FIELD, 0), -11);
        doc.is("use(3, 3, 0, 0, 0): an INTERFACE", x.use(3, 3, 0, FIELD, 0), -11);
        doc.is("use(2, 3, 0, 0, 0): its PARENT is THE ROOT", x.use(2, 3, 0, FIELD, 0), -12);
        x.parent(2, 1);
        doc.is("open(2, 1)", x.open(2, 1), 0);
        doc.is("use(2, 3, 0, 0, 0): the PARENT need not be OPEN", x.use(2, 3, 0, FIELD, 0), 0);
        doc.is("use(2, 2, 0, 0, 0): nor here", x.use(2, 2, 0, FIELD, 0), 0);
        doc.is("use(2, 1, 2, 0, 0): nor here", x.use(2, 1, 2, FIELD, 0), 0);
        doc.is("use(2, 1, 1, 0, 0): but here", x.use(2, 1, 1, FIELD, 0), -11);
        doc.is("use(0, 3, 1, 0, 0): THE ROOT has none still", x.use(0, 3, 1, FIELD, 0), -11);
    }

    private static void useNotThere() {
        doc.at(15, "2 no MEMBER OF q has that kind and NAME;");
        AccessJudge x = Worlds.withTypes("cc");
        x.parent(2, 1);
        x.member(1, FIELD, 4, PUBLIC, STATIC);
        x.member(1, METHOD, 5, PUBLIC, STATIC);
        x.member(1, MAKER, 6, PUBLIC, 0);
        x.member(1, FIELD, 7, PRIVATE, STATIC);
        for (int how = 0; how <= 3; how++) {
            for (int name = 0; name <= 9; name++) {
                boolean isPrivateOfParent = name == 7 && how == 3;
                doc.is("use(2, " + how + ", 2, 0, " + name + ")", x.use(2, how, 2, FIELD, name),
                        name == 4 ? 0 : isPrivateOfParent ? -13 : -12);
                doc.is("use(2, " + how + ", 2, 1, " + name + ")", x.use(2, how, 2, METHOD, name),
                        name == 5 ? 1 : -12);
            }
        }
    }

    private static void useByAccess() {
        doc.at(15, "A MEMBER m is OPEN to f: private: f and its DECLARER have the same TOP; "
                + "package: f has the PACKAGE of its DECLARER; public: in any case; protected: "
                + "as package");
        AccessJudge x = Worlds.withPacks(1);
        Worlds.addTypes(x, "c");
        x.type(0, 1, CLASS, PUBLIC, 0);
        x.type(0, 1, CLASS, PUBLIC, 0);
        Worlds.addTypes(x, "c");
        x.type(1, TOP, CLASS, PUBLIC, 0);
        for (int access = 0; access < 4; access++) {
            x.member(2, FIELD, access, access, STATIC);
        }
        for (int access = 0; access < 4; access++) {
            for (int how = 0; how <= 1; how++) {
                doc.is("from its TOP", x.use(1, how, 2, FIELD, access), access);
                doc.is("from the same TOP", x.use(3, how, 2, FIELD, access), access);
                doc.is("from the PACKAGE", x.use(4, how, 2, FIELD, access),
                        access >= PACKAGE ? access : -13);
                doc.is("from elsewhere", x.use(5, how, 2, FIELD, access),
                        access == PUBLIC ? access : -13);
            }
        }
    }

    // FIELD 0 and the STATIC FIELD 1 are protected in CLASS 1; of the other PACKAGE are 2 (BELOW
    // 1), 3 (BELOW 2), 4 (BELOW 1), 5, and 6 in 2.
    private static AccessJudge heirs() {
        AccessJudge x = Worlds.withPacks(1);
        Worlds.addTypes(x, "c");
        int[] outer = {TOP, TOP, TOP, TOP, 2};
        for (int around : outer) {
            x.type(1, around, CLASS, PUBLIC, 0);
        }
        x.parent(2, 1);
        x.parent(3, 2);
        x.parent(4, 1);
        x.member(1, FIELD, 0, PROTECTED, 0);
        x.member(1, FIELD, 1, PROTECTED, STATIC);
        return x;
    }

    private static void useOfProtected() {
        doc.at(15, "with some TYPE S, which is f or one of the OUTERS around f, and is m's DECLARER"
                + " or BELOW it: m is STATIC, or the use is not by an object (how 0), or it is by "
                + "an object of S or of a TYPE BELOW S.");
        AccessJudge x = heirs();
        int[][] byObject = {{-13, 0, 0, -13}, {-13, -13, 0, -13}, {-13, -13, -13, 0},
            {-13, -13, -13, -13}, {-13, 0, 0, -13}};
        for (int f = 2; f <= 6; f++) {
            boolean isHeir = f != 5;
            for (int q = 1; q <= 4; q++) {
                doc.is("use(" + f + ", 0, " + q + ", 0, 0)", x.use(f, 0, q, FIELD, 0),
                        byObject[f - 2][q - 1]);
                doc.is("use(" + f + ", 0, " + q + ", 0, 1)", x.use(f, 0, q, FIELD, 1),
                        isHeir ? 1 : -13);
                doc.is("use(" + f + ", 1, " + q + ", 0, 0)", x.use(f, 1, q, FIELD, 0),
                        isHeir ? -15 : -13);
                doc.is("use(" + f + ", 1, " + q + ", 0, 1)", x.use(f, 1, q, FIELD, 1),
                        isHeir ? 1 : -13);
            }
        }
        doc.is("use(2, 3, 0, 0, 0): by super", x.use(2, 3, 0, FIELD, 0), 0);
        doc.is("use(6, 2, 0, 0, 0): by the name alone", x.use(6, 2, 0, FIELD, 0), 0);
        doc.is("use(0, 0, 1, 0, 0): in the PACKAGE, by any object", x.use(0, 0, 1, FIELD, 0), 0);
        doc.is("use(0, 0, 4, 0, 0): in the PACKAGE, by any object", x.use(0, 0, 4, FIELD, 0), 0);
    }

    private static void useOfFields() {
        doc.at(15, "4 several FIELDS of these are OPEN.");
        AccessJudge x = Worlds.ofManyFaces(FIELD, STATIC);
        doc.is("use(1, 0, 6, 0, 9): one", x.use(1, 0, 6, FIELD, 9), 9);
        doc.is("use(1, 1, 2, 0, 9): three", x.use(1, 1, 2, FIELD, 9), -14);
        doc.is("use(1, 0, 1, 0, 0): twelve", x.use(1, 0, 1, FIELD, 0), -14);
        doc.is("use(1, 2, 0, 0, 0): twelve", x.use(1, 2, 0, FIELD, 0), -14);
        AccessJudge y = Worlds.withPacks(1);
        Worlds.addTypes(y, "ccii");
        y.type(1, TOP, CLASS, PUBLIC, 0);
        y.parent(2, 1);
        y.face(2, 3);
        y.face(1, 4);
        y.member(1, FIELD, 0, PACKAGE, 0);
        doc.is("use(2, 0, 2, 0, 0): one", y.use(2, 0, 2, FIELD, 0), 0);
        y.member(3, FIELD, 0, PUBLIC, STATIC);
        doc.is("use(2, 0, 2, 0, 0): two", y.use(2, 0, 2, FIELD, 0), -14);
        doc.is("use(5, 0, 2, 0, 0): two, of which one is OPEN", y.use(5, 0, 2, FIELD, 0), 1);
        doc.is("use(5, 1, 2, 0, 0): two, of which one is OPEN", y.use(5, 1, 2, FIELD, 0), 1);
        y.member(4, FIELD, 0, PUBLIC, STATIC);
        doc.is("use(5, 0, 2, 0, 0): 4's is hidden by 1's", y.use(5, 0, 2, FIELD, 0), 1);
        AccessJudge z = Worlds.withTypes("iiic");
        z.face(2, 1);
        z.face(3, 1);
        z.face(4, 2);
        z.face(4, 3);
        z.member(1, FIELD, 0, PUBLIC, STATIC);
        doc.is("use(4, 0, 4, 0, 0): one, by two ways", z.use(4, 0, 4, FIELD, 0), 0);
    }

    private static void useOfMethods() {
        doc.at(15, "(Of several METHODS that are OPEN the one is meant that a CLASS DECLARES, else "
                + "the one with the least number.)");
        AccessJudge x = Worlds.ofManyFaces(METHOD, 0);
        doc.is("use(1, 0, 1, 1, 0): of twelve", x.use(1, 0, 1, METHOD, 0), 0);
        doc.is("use(1, 2, 0, 1, 9): of twelve", x.use(1, 2, 0, METHOD, 9), 9);
        doc.is("use(1, 0, 5, 1, 9): of three", x.use(1, 0, 5, METHOD, 9), 99);
        AccessJudge y = Worlds.withPacks(1);
        y.type(0, TOP, CLASS, PUBLIC, ABSTRACT);
        Worlds.addTypes(y, "iic");
        y.type(1, TOP, CLASS, PUBLIC, 0);
        y.face(4, 2);
        y.face(4, 3);
        y.member(3, METHOD, 0, PUBLIC, 0);
        doc.is("use(4, 0, 4, 1, 0): one", y.use(4, 0, 4, METHOD, 0), 0);
        y.member(2, METHOD, 0, PUBLIC, 0);
        doc.is("use(4, 0, 4, 1, 0): two, the later TYPE's first", y.use(4, 0, 4, METHOD, 0), 0);
        y.member(1, METHOD, 0, PACKAGE, ABSTRACT);
        y.parent(4, 1);
        doc.is("use(4, 0, 4, 1, 0): a CLASS DECLARES the last one", y.use(4, 0, 4, METHOD, 0), 2);
        doc.is("use(5, 0, 4, 1, 0): which is not OPEN here", y.use(5, 0, 4, METHOD, 0), 0);
    }

    private static void useNotStaticByName() {
        doc.at(15, "5 (how 1) it is not STATIC;");
        AccessJudge x = Worlds.withTypes("cc");
        x.parent(2, 1);
        for (int flags = 0; flags < 4; flags++) {
            x.member(1, METHOD, flags, PUBLIC, flags);
        }
        for (int flags = 0; flags < 4; flags++) {
            boolean isStatic = flags % 2 == 1;
            doc.is("by q's name, FLAGS " + flags, x.use(0, 1, 1, METHOD, flags),
                    isStatic ? flags : -15);
            doc.is("by an object, FLAGS " + flags, x.use(0, 0, 1, METHOD, flags), flags);
            doc.is("by the name alone, FLAGS " + flags, x.use(1, 2, 1, METHOD, flags), flags);
            doc.is("by super, FLAGS " + flags, x.use(2, 3, 1, METHOD, flags), flags);
        }
    }

    private static void useByNameAloneOutwards() {
        doc.at(15, OUTWARDS);
        AccessJudge x = Worlds.nested(39);
        doc.is("use(39, 2, 0, 0, 0): none", x.use(39, 2, 0, FIELD, 0), -12);
        x.member(1, FIELD, 0, PRIVATE, 0);
        doc.is("use(39, 2, 0, 0, 0): the outermost", x.use(39, 2, 0, FIELD, 0), 0);
        x.member(2, METHOD, 0, PUBLIC, 0);
        doc.is("use(39, 2, 0, 0, 0): not of another kind", x.use(39, 2, 0, FIELD, 0), 0);
        x.member(20, FIELD, 1, PUBLIC, 0);
        doc.is("use(39, 2, 0, 0, 0): not of another NAME", x.use(39, 2, 0, FIELD, 0), 0);
        x.member(20, FIELD, 0, PUBLIC, 0);
        doc.is("use(39, 2, 0, 0, 0): a nearer one", x.use(39, 2, 0, FIELD, 0), 3);
        doc.is("use(19, 2, 0, 0, 0): not from within", x.use(19, 2, 0, FIELD, 0), 0);
        doc.is("use(20, 2, 0, 0, 0): itself", x.use(20, 2, 0, FIELD, 0), 3);
        x.member(39, FIELD, 0, PRIVATE, 0);
        doc.is("use(39, 2, 0, 0, 0): its own", x.use(39, 2, 0, FIELD, 0), 4);
        x.member(0, FIELD, 2, PUBLIC, 0);
        doc.is("use(39, 2, 0, 0, 2): INHERITED from THE ROOT", x.use(39, 2, 0, FIELD, 2), 5);
        AccessJudge y = Worlds.nested(2);
        Worlds.addTypes(y, "ii");
        y.face(2, 3);
        y.face(2, 4);
        y.member(1, FIELD, 0, PUBLIC, STATIC);
        y.member(3, FIELD, 0, PUBLIC, STATIC);
        y.member(4, FIELD, 0, PUBLIC, STATIC);
        doc.is("use(2, 2, 0, 0, 0): the first one has several", y.use(2, 2, 0, FIELD, 0), -14);
        doc.is("use(1, 2, 0, 0, 0): the next one has one", y.use(1, 2, 0, FIELD, 0), 0);
    }

    // Each within the one before it, 1 to 5; which is STATIC is told by a bit for each.
    private static AccessJudge nestedStatic(int bits) {
        AccessJudge x = Worlds.withTypes("c");
        for (int t = 2; t <= 5; t++) {
            x.type(0, t - 1, CLASS, PUBLIC, bits >> t & 1);
        }
        x.member(3, FIELD, 0, PUBLIC, 0);
        x.member(3, FIELD, 1, PUBLIC, STATIC);
        x.member(1, METHOD, 0, PUBLIC, 0);
        return x;
    }

    private static void useByNameAloneThroughStatic() {
        doc.at(15, "(how 2) it is not STATIC, and one of the TYPES from f on, outwards, ahead of q,"
                + " is STATIC;");
        for (int bits = 0; bits < 64; bits += 4) {
            AccessJudge x = nestedStatic(bits);
            String which = ", STATIC ones " + bits;
            doc.is("use(5, 2, 0, 0, 0)" + which, x.use(5, 2, 0, FIELD, 0),
                    (bits & 48) != 0 ? -15 : 0);
            doc.is("use(4, 2, 0, 0, 0)" + which, x.use(4, 2, 0, FIELD, 0),
                    (bits & 16) != 0 ? -15 : 0);
            doc.is("use(3, 2, 0, 0, 0)" + which, x.use(3, 2, 0, FIELD, 0), 0);
            doc.is("use(5, 2, 0, 0, 1)" + which, x.use(5, 2, 0, FIELD, 1), 1);
            doc.is("use(5, 2, 0, 1, 0)" + which, x.use(5, 2, 0, METHOD, 0), bits != 0 ? -15 : 2);
        }
        AccessJudge y = Worlds.withTypes("c");
        for (int t = 2; t <= 39; t++) {
            y.type(0, t - 1, CLASS, PUBLIC, t == 2 || t == 39 ? STATIC : 0);
        }
        y.member(1, FIELD, 0, PUBLIC, 0);
        y.member(2, FIELD, 1, PUBLIC, 0);
        doc.is("use(38, 2, 0, 0, 0): the last one ahead of q is", y.use(38, 2, 0, FIELD, 0), -15);
        doc.is("use(38, 2, 0, 0, 1): only q is", y.use(38, 2, 0, FIELD, 1), 1);
        doc.is("use(39, 2, 0, 0, 1): f is", y.use(39, 2, 0, FIELD, 1), -15);
    }

    private static void useOfAbstractBySuper() {
        doc.at(15, "6 (how 3) it is ABSTRACT.");
        AccessJudge x = new AccessJudge();
        x.type(0, TOP, CLASS, PUBLIC, ABSTRACT);
        x.type(0, TOP, CLASS, PUBLIC, ABSTRACT);
        x.parent(2, 1);
        x.member(1, METHOD, 0, PROTECTED, ABSTRACT);
        x.member(1, METHOD, 1, PROTECTED, 0);
        doc.is("use(2, 3, 0, 1, 0)", x.use(2, 3, 0, METHOD, 0), -16);
        doc.is("use(2, 3, 0, 1, 1)", x.use(2, 3, 0, METHOD, 1), 1);
        doc.is("use(2, 0, 2, 1, 0): by an object", x.use(2, 0, 2, METHOD, 0), 0);
        doc.is("use(2, 2, 0, 1, 0): by the name alone", x.use(2, 2, 0, METHOD, 0), 0);
    }

    private static void useFirstOfSeveralCodes() {
        doc.at(15, FIRST);
        AccessJudge x = notOpen();
        doc.is("use(0, 1, 1, 0, 5): 1 ahead of 2", x.use(0, 1, 1, FIELD, 5), -11);
        doc.is("use(0, 1, 1, 0, 0): 1 ahead of 3 and 5", x.use(0, 1, 1, FIELD, 0), -11);
        doc.is("use(0, 3, 0, 0, 5): 1 ahead of 2", x.use(0, 3, 0, FIELD, 5), -11);
        AccessJudge y = Worlds.withPacks(1);
        y.type(0, TOP, CLASS, PUBLIC, ABSTRACT);
        Worlds.addTypes(y, "ci");
        y.type(1, TOP, CLASS, PUBLIC, 0);
        y.parent(2, 1);
        y.parent(4, 1);
        y.face(2, 3);
        y.member(1, METHOD, 0, PACKAGE, ABSTRACT);
        y.member(1, FIELD, 0, PACKAGE, 0);
        y.member(3, FIELD, 0, PUBLIC, STATIC);
        doc.is("use(4, 1, 1, 0, 0): 3 ahead of 5", y.use(4, 1, 1, FIELD, 0), -13);
        doc.is("use(4, 3, 0, 1, 0): 3 ahead of 6", y.use(4, 3, 0, METHOD, 0), -13);
        doc.is("use(2, 1, 2, 0, 0): 4 ahead of 5", y.use(2, 1, 2, FIELD, 0), -14);
        y.module();
        y.pack(1);
        y.type(2, TOP, CLASS, PUBLIC, 0);
        doc.is("use(4, 0, 5, 0, 0): 1 ahead of 2", y.use(4, 0, 5, FIELD, 0), -11);
    }

    private static void useRefused() {
        doc.at(15, NOTHING_CHANGED);
        AccessJudge x = Worlds.withTypes("c");
        x.member(0, FIELD, 0, PUBLIC, 0);
        doc.is("use(2, 0, 0, 0, 0)", x.use(2, 0, 0, FIELD, 0), BAD);
        doc.is("use(1, 4, 0, 0, 0)", x.use(1, 4, 0, FIELD, 0), BAD);
        doc.is("use(1, 0, 2, 0, 0)", x.use(1, 0, 2, FIELD, 0), BAD);
        doc.is("use(1, 0, 1, 2, 0)", x.use(1, 0, 1, MAKER, 0), BAD);
        doc.is("use(1, 0, 1, 0, 10)", x.use(1, 0, 1, FIELD, 10), BAD);
        doc.is("use(1, 1, 1, 0, 0)", x.use(1, 1, 1, FIELD, 0), -15);
        doc.is("use(1, 0, 1, 0, 0)", x.use(1, 0, 1, FIELD, 0), 0);
        doc.is("count(3)", x.count(3), 1);
        doc.is("about(1, 5)", x.about(1, 5), 1);
    }

    private static void makeBounds() {
        doc.at(16, "BAD: no such f, how (0 .. 2), q (with how 0, 1), NAME.");
        doc.taken("make of a new one, f", 0, 0, v -> new AccessJudge().make(v, 0, 0, 0));
        doc.taken("make of a new one, how", 0, 2, v -> new AccessJudge().make(0, v, 0, 0));
        for (int how = 0; how <= 2; how++) {
            int by = how;
            doc.taken("make of a new one, NAME", 0, 9, v -> new AccessJudge().make(0, by, 0, v));
            doc.taken("make of a full one, NAME", 0, 9, v -> Worlds.full().make(39, by, 39, v));
            doc.taken("make of a full one, f", 0, 39, v -> Worlds.full().make(v, by, 39, 0));
        }
        doc.taken("make of a full one, how", 0, 2, v -> Worlds.full().make(39, v, 39, 0));
        for (int how = 0; how <= 1; how++) {
            int by = how;
            doc.taken("make of a new one, q", 0, 0, v -> new AccessJudge().make(0, by, v, 0));
            doc.taken("make of a full one, q", 0, 39, v -> Worlds.full().make(39, by, v, 0));
        }
    }

    // THE ROOT with all MAKERS, CLASS 1.
    private static AccessJudge rootWithMakers() {
        AccessJudge x = Worlds.withTypes("c");
        for (int name = 0; name <= 9; name++) {
            x.member(0, MAKER, name, PUBLIC, 0);
        }
        return x;
    }

    private static void makeFreeArguments() {
        doc.at(16, "2: by super(..): q is f's PARENT then.");
        doc.free("make by super, q", 9, v -> rootWithMakers().make(1, 2, v, 9));
        doc.free("make by super, q", -11, v -> rootWithMakers().make(0, 2, v, 9));
        AccessJudge x = rootWithMakers();
        for (int name = 0; name <= 9; name++) {
            doc.is("make(1, 2, 1, " + name + ")", x.make(1, 2, 1, name), name);
            doc.is("make(1, 0, 0, " + name + ")", x.make(1, 0, 0, name), name);
        }
    }

    private static void makeBadAheadOfCodes() {
        doc.at(16, BAD_AHEAD);
        for (int how = 0; how <= 1; how++) {
            int by = how;
            doc.is("make(0, " + how + ", 1, 0): code 1", notOpen().make(0, by, 1, 0), -11);
            doc.taken("make with code 1, f", 0, 1, v -> notOpen().make(v, by, 1, 0));
            doc.taken("make with code 1, q", 0, 1, v -> notOpen().make(0, by, v, 0));
            doc.taken("make with code 1, NAME", 0, 9, v -> notOpen().make(0, by, 1, v));
        }
        doc.taken("make with no PARENT, NAME", 0, 9, v -> notOpen().make(0, 2, 0, v));
    }

    private static void makeNotOpenOrNoParent() {
        doc.at(16, "1 (how 0, 1) q is not OPEN to f; (how 2) f has no PARENT;");
        AccessJudge x = Worlds.withPacks(1);
        x.type(1, TOP, CLASS, PACKAGE, 0);
        Worlds.addTypes(x, "ci");
        x.member(1, MAKER, 0, PUBLIC, 0);
        doc.is("make(2, 0, 1, 0)", x.make(2, 0, 1, 0), -11);
        doc.is("make(2, 1, 1, 0)", x.make(2, 1, 1, 0), -11);
        doc.is("make(1, 0, 1, 0)", x.make(1, 0, 1, 0), 0);
        doc.is("make(0, 2, 0, 0): THE ROOT", x.make(0, 2, 0, 0), -11);
        doc.is("make(3, 2, 0, 0): an INTERFACE", x.make(3, 2, 0, 0), -11);
        doc.is("make(2, 2, 0, 0): its PARENT is THE ROOT", x.make(2, 2, 0, 0), -12);
        x.parent(2, 1);
        doc.is("make(2, 2, 0, 0): the PARENT need not be OPEN", x.make(2, 2, 0, 0), 0);
    }

    private static void makeNotThere() {
        doc.at(16, "2 q DECLARES no MAKER of that NAME;");
        AccessJudge x = Worlds.withTypes("cci");
        x.parent(2, 1);
        x.member(1, MAKER, 3, PUBLIC, 0);
        x.member(1, METHOD, 4, PUBLIC, 0);
        for (int name = 0; name <= 9; name++) {
            doc.is("make(0, 0, 1, " + name + ")", x.make(0, 0, 1, name), name == 3 ? 0 : -12);
            doc.is("make(0, 0, 2, " + name + "): not INHERITED", x.make(0, 0, 2, name), -12);
            doc.is("make(0, 1, 3, " + name + "): of an INTERFACE", x.make(0, 1, 3, name), -12);
            doc.is("make(2, 2, 0, " + name + ")", x.make(2, 2, 0, name), name == 3 ? 0 : -12);
            doc.is("make(1, 2, 0, " + name + ")", x.make(1, 2, 0, name), -12);
        }
    }

    private static void makeByAccess() {
        doc.at(16, "3 it is not to be used by f: private: not the same TOP; package: not the "
                + "PACKAGE of q; protected: not that PACKAGE, and by new (how 0);");
        AccessJudge x = Worlds.withPacks(1);
        Worlds.addTypes(x, "c");
        x.type(0, 1, CLASS, PUBLIC, 0);
        x.type(0, 1, CLASS, PUBLIC, 0);
        Worlds.addTypes(x, "c");
        x.type(1, TOP, CLASS, PUBLIC, 0);
        x.type(1, TOP, CLASS, PUBLIC, 0);
        x.parent(6, 2);
        for (int access = 0; access < 4; access++) {
            x.member(2, MAKER, access, access, 0);
        }
        for (int access = 0; access < 4; access++) {
            for (int how = 0; how <= 1; how++) {
                int far = access == PUBLIC || access == PROTECTED && how == 1 ? access : -13;
                doc.is("from its TOP", x.make(1, how, 2, access), access);
                doc.is("from the same TOP", x.make(3, how, 2, access), access);
                doc.is("from itself", x.make(2, how, 2, access), access);
                doc.is("from the PACKAGE", x.make(4, how, 2, access),
                        access == PRIVATE ? -13 : access);
                doc.is("from elsewhere", x.make(5, how, 2, access), far);
                doc.is("from BELOW it, elsewhere", x.make(6, how, 2, access), far);
            }
        }
    }

    private static void makeBySuperByAccess() {
        doc.at(16, "3 it is not to be used by f: private: not the same TOP; package: not the "
                + "PACKAGE of q; protected: not that PACKAGE, and by new (how 0);");
        AccessJudge x = Worlds.withPacks(1);
        Worlds.addTypes(x, "c");
        x.type(0, 1, CLASS, PUBLIC, 0);
        Worlds.addTypes(x, "c");
        x.type(1, TOP, CLASS, PUBLIC, 0);
        for (int t = 2; t <= 4; t++) {
            x.parent(t, 1);
        }
        for (int access = 0; access < 4; access++) {
            x.member(1, MAKER, access, access, 0);
        }
        for (int access = 0; access < 4; access++) {
            doc.is("super from the same TOP", x.make(2, 2, 0, access), access);
            doc.is("super from the PACKAGE", x.make(3, 2, 0, access),
                    access == PRIVATE ? -13 : access);
            doc.is("super from elsewhere", x.make(4, 2, 0, access),
                    access <= PACKAGE ? -13 : access);
        }
    }

    // CLASSES 1 (no FLAGS), 2 (FINAL), 3 (ABSTRACT) with MAKERS, 4 (BELOW 2), 5 (BELOW 3).
    private static void makeOfAbstractAndFinal() {
        AccessJudge x = Worlds.withTypes("c");
        x.type(0, TOP, CLASS, PUBLIC, FINAL);
        x.type(0, TOP, CLASS, PUBLIC, ABSTRACT);
        Worlds.addTypes(x, "cc");
        x.parent(4, 2);
        x.parent(5, 3);
        for (int t = 1; t <= 3; t++) {
            x.member(t, MAKER, 0, PUBLIC, 0);
        }
        doc.at(16, "5 (how 0) q is ABSTRACT;");
        doc.is("make(0, 0, 1, 0)", x.make(0, 0, 1, 0), 0);
        doc.is("make(0, 0, 2, 0): FINAL", x.make(0, 0, 2, 0), 1);
        doc.is("make(0, 0, 3, 0): ABSTRACT", x.make(0, 0, 3, 0), -15);
        doc.at(16, "6 (how 1) q is FINAL.");
        doc.is("make(0, 1, 1, 0)", x.make(0, 1, 1, 0), 0);
        doc.is("make(0, 1, 2, 0): FINAL", x.make(0, 1, 2, 0), -16);
        doc.is("make(0, 1, 3, 0): ABSTRACT", x.make(0, 1, 3, 0), 2);
        doc.is("make(4, 2, 0, 0): FINAL, by super", x.make(4, 2, 0, 0), 1);
        doc.is("make(5, 2, 0, 0): ABSTRACT, by super", x.make(5, 2, 0, 0), 2);
    }

    private static void makeFirstOfSeveralCodes() {
        doc.at(16, "The MAKER of that NAME that q DECLARES, or -10 less a code, the first:");
        AccessJudge x = Worlds.withPacks(1);
        for (int access = PACKAGE; access <= PUBLIC; access += 2) {
            for (int flags = FINAL; flags <= ABSTRACT; flags += 2) {
                x.type(1, TOP, CLASS, access, flags);
                x.member(x.count(2) - 1, MAKER, 0, PRIVATE, 0);
            }
        }
        doc.is("make(0, 0, 2, 0): 1 ahead of 3 and 5", x.make(0, 0, 2, 0), -11);
        doc.is("make(0, 0, 2, 1): 1 ahead of 2 and 5", x.make(0, 0, 2, 1), -11);
        doc.is("make(0, 1, 1, 0): 1 ahead of 3 and 6", x.make(0, 1, 1, 0), -11);
        doc.is("make(0, 1, 1, 1): 1 ahead of 2 and 6", x.make(0, 1, 1, 1), -11);
        doc.is("make(0, 0, 4, 0): 3 ahead of 5", x.make(0, 0, 4, 0), -13);
        doc.is("make(0, 1, 3, 0): 3 ahead of 6", x.make(0, 1, 3, 0), -13);
        doc.is("make(0, 0, 4, 1): 2 ahead of 5", x.make(0, 0, 4, 1), -12);
        doc.is("make(0, 1, 3, 1): 2 ahead of 6", x.make(0, 1, 3, 1), -12);
        doc.is("make(4, 0, 4, 0): 5", x.make(4, 0, 4, 0), -15);
        doc.is("make(3, 1, 3, 0): 6", x.make(3, 1, 3, 0), -16);
        doc.is("make(0, 2, 0, 5): 1 ahead of 2", x.make(0, 2, 0, 5), -11);
    }

    private static void makeRefused() {
        doc.at(16, NOTHING_CHANGED);
        AccessJudge x = rootWithMakers();
        doc.is("make(2, 0, 0, 0)", x.make(2, 0, 0, 0), BAD);
        doc.is("make(1, 3, 0, 0)", x.make(1, 3, 0, 0), BAD);
        doc.is("make(1, 0, 2, 0)", x.make(1, 0, 2, 0), BAD);
        doc.is("make(1, 0, 0, 10)", x.make(1, 0, 0, 10), BAD);
        doc.is("make(1, 0, 1, 0)", x.make(1, 0, 1, 0), -12);
        doc.is("count(2)", x.count(2), 2);
        doc.is("count(3)", x.count(3), 10);
        doc.is("make(1, 0, 0, 0)", x.make(1, 0, 0, 0), 0);
    }
}
