import java.io.IOException;
import java.util.Arrays;

/** The edges of promises 17 to 20: what OVERRIDES what, what is CHOSEN, and FAULTS. */
public final class BoundsOfMethodsTest {
    private static final int BAD = AccessJudge.BAD, NONE = AccessJudge.NONE, TWO = AccessJudge.TWO;
    private static final int TOP = -1, CLASS = 0, INTERFACE = 1;
    private static final int STATIC = 1, FINAL = 2, ABSTRACT = 4;
    private static final int PRIVATE = 0, PACKAGE = 1, PROTECTED = 2, PUBLIC = 3;
    private static final int FIELD = 0, METHOD = 1, MAKER = 2;
    private static final String OVERRIDES = "both have one NAME, neither is STATIC or private, the "
            + "DECLARER of d is BELOW that of a, and: a is public or protected; or both DECLARERS "
            + "have one PACKAGE;";
    private static final String ORDER = "FAULTS of a TYPE t, in this order (by code, then by the "
            + "number of a TYPE or MEMBER):";
    private static final String MET = "METHODS a of their NAME, not private, whose DECLARER is "
            + "ABOVE t, which are public or protected, or have ACCESS package in t's PACKAGE, or "
            + "which d OVERRIDES, but not STATIC ones of INTERFACES (with none of these d has no "
            + "FAULT):";
    private static final String NOTHING_CHANGED = "What is refused changes nothing.";
    private static Sentences doc;

    public static void main(String[] args) throws IOException {
        doc = new Sentences("BoundsOfMethodsTest", args);
        overridesBounds();
        overridesOfNoMethods();
        overridesByAccess();
        overridesInALongLine();
        overridesThroughAStep();
        overridesRefused();
        chooseBounds();
        chooseOfNoMethods();
        chooseForWrongTypes();
        choosePrivateAndStatic();
        chooseInALongLine();
        chooseAmongInterfaces();
        chooseTheLowestOfInterfaces();
        chooseRefused();
        checkBounds();
        checkNoneAndMost();
        faultBounds();
        faultsOfParentAndFaces();
        faultsOfMethods();
        faultsOfMethodsElsewhere();
        faultsOfMethodsOfInterfaces();
        faultsOnceForEach();
        faultsOfAbstractOnes();
        faultsOfRivals();
        faultRefused();
        doc.end(17, 18, 19, 20);
    }

    private static void overridesBounds() {
        doc.at(17, "Whether METHOD d OVERRIDES METHOD a: 1, 0. BAD: also if one is no METHOD.");
        doc.taken("overrides(d, 0) of a new one, d", 0, -1, v -> new AccessJudge().overrides(v, 0));
        doc.taken("overrides(0, a) of a new one, a", 0, -1, v -> new AccessJudge().overrides(0, v));
        doc.taken("overrides(d, 0), d", 0, 119, v -> Worlds.full().overrides(v, 0));
        doc.taken("overrides(119, a), a", 0, 119, v -> Worlds.full().overrides(119, v));
        doc.taken("overrides(d, d), d", 0, 119, v -> Worlds.full().overrides(v, v));
    }

    // Of CLASS 1 and CLASS 2, which is BELOW it: a FIELD, a METHOD, a MAKER each.
    private static AccessJudge threeKinds() {
        AccessJudge x = Worlds.withTypes("cc");
        x.parent(2, 1);
        for (int m = 0; m < 6; m++) {
            x.member(1 + m / 3, m % 3, 0, PUBLIC, 0);
        }
        return x;
    }

    private static void overridesOfNoMethods() {
        doc.at(17, "BAD: also if one is no METHOD.");
        AccessJudge x = threeKinds();
        for (int d = 0; d < 6; d++) {
            for (int a = 0; a < 6; a++) {
                boolean areMethods = d % 3 == METHOD && a % 3 == METHOD;
                doc.is("overrides(" + d + ", " + a + ")", x.overrides(d, a),
                        !areMethods ? BAD : d == 4 && a == 1 ? 1 : 0);
            }
        }
    }

    // CLASS 1, and CLASS 2 BELOW it, in a PACKAGE each: METHOD 0 of 1, METHOD 1 of 2.
    private static AccessJudge twoMethods(int pack, int access, int flags, int ownAccess,
            int ownFlags) {
        AccessJudge x = Worlds.withPacks(1);
        Worlds.addTypes(x, "c");
        x.type(pack, TOP, CLASS, PUBLIC, 0);
        x.parent(2, 1);
        x.member(1, METHOD, 0, access, flags);
        x.member(2, METHOD, 0, ownAccess, ownFlags);
        return x;
    }

    private static void overridesByAccess() {
        doc.at(17, OVERRIDES);
        for (int pack = 0; pack < 2; pack++) {
            for (int access = 0; access < 4; access++) {
                for (int own = 0; own < 4; own++) {
                    boolean isNear = access >= PROTECTED || access == PACKAGE && pack == 0;
                    String which = ", ACCESS " + own + " and " + access + ", PACKAGE " + pack;
                    doc.is("overrides(1, 0)" + which,
                            twoMethods(pack, access, 0, own, 0).overrides(1, 0),
                            isNear && own != PRIVATE ? 1 : 0);
                    doc.is("overrides(0, 1)" + which,
                            twoMethods(pack, access, 0, own, 0).overrides(0, 1), 0);
                    doc.is("overrides(1, 0), a is STATIC" + which,
                            twoMethods(pack, access, STATIC, own, 0).overrides(1, 0), 0);
                    doc.is("overrides(1, 0), d is STATIC" + which,
                            twoMethods(pack, access, 0, own, STATIC).overrides(1, 0), 0);
                }
            }
        }
        doc.at(17, "A METHOD d OVERRIDES another one, a:");
        doc.is("overrides(0, 0): not itself", twoMethods(0, 3, 0, 3, 0).overrides(0, 0), 0);
        doc.is("overrides(1, 1): not itself", twoMethods(0, 3, 0, 3, 0).overrides(1, 1), 0);
        AccessJudge x = Worlds.full();
        doc.is("overrides(10, 0): NAME 0", x.overrides(10, 0), 1);
        doc.is("overrides(11, 0): NAMES 1 and 0", x.overrides(11, 0), 0);
        doc.is("overrides(10, 9): NAMES 0 and 9", x.overrides(10, 9), 0);
        doc.is("overrides(119, 9): NAME 9, 11 steps", x.overrides(119, 9), 1);
        doc.is("overrides(9, 119)", x.overrides(9, 119), 0);
        AccessJudge y = Worlds.full();
        for (int name = 9; name >= 0; name--) {
            doc.is("NAME " + name + ", the last one first", y.overrides(10 + name, name), 1);
        }
    }

    // CLASSES 1 to 39 in line, of two PACKAGES by turns, each with METHOD number t - 1: they have
    // ACCESS package, but for the protected one of CLASS 21, which is overridden by all BELOW it.
    private static void overridesInALongLine() {
        doc.at(17, "or there is a METHOD b whose DECLARER is a CLASS between both (BELOW that of a,"
                + " and that of d BELOW it), such that d OVERRIDES b and b OVERRIDES a.");
        for (int t = 1; t <= 39; t++) {
            AccessJudge x = Worlds.withPacks(1);
            for (int c = 1; c <= 39; c++) {
                x.type(c % 2, TOP, CLASS, PUBLIC, 0);
                x.parent(c, c - 1);
                x.member(c, METHOD, 0, c == 21 ? PROTECTED : PACKAGE, 0);
            }
            for (int u = 1; u <= 39; u++) {
                boolean isOneStep = u == 21 || t % 2 == u % 2;
                boolean isByTheProtectedOne = t > 21 && u < 21 && u % 2 == 1;
                doc.is("overrides(" + (t - 1) + ", " + (u - 1) + ")", x.overrides(t - 1, u - 1),
                        t > u && (isOneStep || isByTheProtectedOne) ? 1 : 0);
            }
        }
    }

    // CLASSES 1 and 2 of PACKAGE 0, 3 of PACKAGE 1, in line: METHODS 0 of 1, 1 of 3.
    private static AccessJudge withoutStep() {
        AccessJudge x = Worlds.withPacks(1);
        Worlds.addTypes(x, "cc");
        x.type(1, TOP, CLASS, PUBLIC, 0);
        x.parent(2, 1);
        x.parent(3, 2);
        x.member(1, METHOD, 0, PACKAGE, 0);
        x.member(3, METHOD, 0, PUBLIC, 0);
        return x;
    }

    private static void overridesThroughAStep() {
        doc.at(17, "such that d OVERRIDES b and b OVERRIDES a.");
        AccessJudge x = withoutStep();
        doc.is("overrides(1, 0): there is no b", x.overrides(1, 0), 0);
        x.member(2, METHOD, 1, PUBLIC, 0);
        doc.is("overrides(1, 0): b has another NAME", x.overrides(1, 0), 0);
        int[][] cases = {{PRIVATE, 0, 0}, {PACKAGE, 0, 0}, {PROTECTED, 0, 1}, {PUBLIC, 0, 1},
            {PUBLIC, FINAL, 1}, {PUBLIC, STATIC, 0}};
        for (int[] b : cases) {
            AccessJudge y = withoutStep();
            y.member(2, METHOD, 0, b[0], b[1]);
            doc.is("overrides(1, 0), b has ACCESS " + b[0] + ", FLAGS " + b[1], y.overrides(1, 0),
                    b[2]);
        }
        AccessJudge z = withoutStep();
        z.type(0, TOP, CLASS, PUBLIC, 0);
        z.parent(4, 1);
        z.member(4, METHOD, 0, PUBLIC, 0);
        doc.is("overrides(1, 0): b is not between both", z.overrides(1, 0), 0);
    }

    private static void overridesRefused() {
        doc.at(17, NOTHING_CHANGED);
        AccessJudge x = threeKinds();
        doc.is("overrides(4, 0)", x.overrides(4, 0), BAD);
        doc.is("overrides(6, 1)", x.overrides(6, 1), BAD);
        doc.is("overrides(4, -1)", x.overrides(4, -1), BAD);
        doc.is("overrides(4, 1)", x.overrides(4, 1), 1);
        doc.is("count(3)", x.count(3), 6);
    }

    private static void chooseBounds() {
        doc.at(18, "BAD: no METHOD; t is no CLASS, or ABSTRACT, or neither m's DECLARER nor BELOW "
                + "it.");
        doc.taken("choose(m, 0) of a new one, m", 0, -1, v -> new AccessJudge().choose(v, 0));
        doc.taken("choose(0, t) of a new one, t", 0, -1, v -> new AccessJudge().choose(0, v));
        doc.taken("choose(m, 39), m", 0, 119, v -> Worlds.full().choose(v, 39));
        doc.taken("choose(m, 3), m", 0, 39, v -> Worlds.full().choose(v, 3));
        doc.taken("choose(m, 0), m", 0, 9, v -> Worlds.full().choose(v, 0));
        doc.taken("choose(0, t), t", 0, 39, v -> Worlds.full().choose(0, v));
        doc.taken("choose(119, t), t", 11, 39, v -> Worlds.full().choose(119, v));
        doc.taken("choose(50, t), t", 5, 39, v -> Worlds.full().choose(50, v));
    }

    private static void chooseOfNoMethods() {
        doc.at(18, "BAD: no METHOD;");
        AccessJudge x = threeKinds();
        int[] due = {BAD, 4, BAD, BAD, 4, BAD, BAD};
        for (int m = 0; m <= 6; m++) {
            doc.is("choose(" + m + ", 2)", x.choose(m, 2), due[m]);
        }
        doc.is("choose(1, 1)", x.choose(1, 1), 1);
    }

    // INTERFACE 1 with METHOD 0; ABSTRACT CLASS 2 with METHOD 1, BELOW 1; 3 BELOW 2; 4 beside.
    private static void chooseForWrongTypes() {
        doc.at(18, "t is no CLASS, or ABSTRACT, or neither m's DECLARER nor BELOW it.");
        AccessJudge x = Worlds.withTypes("i");
        x.type(0, TOP, CLASS, PUBLIC, ABSTRACT);
        Worlds.addTypes(x, "cci");
        x.face(2, 1);
        x.parent(3, 2);
        x.face(5, 1);
        x.member(1, METHOD, 0, PUBLIC, 0);
        x.member(2, METHOD, 1, PUBLIC, 0);
        x.member(2, METHOD, 2, PRIVATE, 0);
        x.member(2, METHOD, 3, PUBLIC, STATIC);
        int[][] due = {{BAD, BAD, BAD, 0, BAD, BAD, BAD}, {BAD, BAD, BAD, 1, BAD, BAD, BAD},
            {BAD, BAD, BAD, 2, BAD, BAD, BAD}, {BAD, BAD, BAD, 3, BAD, BAD, BAD}};
        for (int m = 0; m < 4; m++) {
            for (int t = 0; t <= 6; t++) {
                doc.is("choose(" + m + ", " + t + ")", x.choose(m, t), due[m][t]);
            }
        }
    }

    private static void choosePrivateAndStatic() {
        doc.at(18, "m, if m is private or STATIC.");
        for (int access = 0; access < 4; access++) {
            for (int flags = 0; flags <= 1; flags++) {
                boolean isItself = access == PRIVATE || flags == STATIC;
                AccessJudge x = twoMethods(0, access, flags, PUBLIC, 0);
                doc.is("choose(0, 2), ACCESS " + access + ", FLAGS " + flags, x.choose(0, 2),
                        isItself ? 0 : 1);
                doc.is("choose(0, 1), ACCESS " + access + ", FLAGS " + flags, x.choose(0, 1), 0);
            }
        }
    }

    private static void chooseInALongLine() {
        doc.at(18, "Else of t, its PARENT, and so on, the first that DECLARES m, or a METHOD that "
                + "OVERRIDES m,");
        AccessJudge x = Worlds.full();
        for (int t = 0; t <= 39; t++) {
            doc.is("choose(9, " + t + ")", x.choose(9, t), 10 * Math.min(t, 11) + 9);
        }
        AccessJudge y = Worlds.inLine(39);
        y.member(0, METHOD, 0, PUBLIC, 0);
        y.member(38, METHOD, 0, PUBLIC, STATIC);
        doc.is("choose(0, 39): far ABOVE, a STATIC one passed by", y.choose(0, 39), 0);
        y.member(1, METHOD, 0, PACKAGE, 0);
        doc.is("choose(0, 39): one that OVERRIDES it", y.choose(0, 39), 2);
        doc.is("choose(0, 0): t itself DECLARES it", y.choose(0, 0), 0);
        doc.at(18, "or (when m's DECLARER is an INTERFACE) any METHOD of m's NAME that is neither "
                + "private nor STATIC: that one.");
        AccessJudge z = Worlds.inLine(38);
        Worlds.addTypes(z, "i");
        z.face(38, 39);
        z.member(39, METHOD, 0, PUBLIC, 0);
        doc.is("choose(0, 38): none in a CLASS", z.choose(0, 38), 0);
        z.member(20, METHOD, 0, PUBLIC, STATIC);
        z.member(10, METHOD, 0, PRIVATE, 0);
        doc.is("choose(0, 38): STATIC and private ones passed by", z.choose(0, 38), 0);
        z.member(0, METHOD, 0, PACKAGE, 0);
        doc.is("choose(0, 38): THE ROOT's", z.choose(0, 38), 3);
    }

    private static void chooseAmongInterfaces() {
        doc.at(18, "the one that is not ABSTRACT, if there is just one such; NONE, if there is "
                + "none; TWO, if there are more.");
        int[] due = {NONE, -99, TWO, TWO, TWO};
        for (int bits = 0; bits < 16; bits++) {
            AccessJudge x = Worlds.withTypes("ciiii");
            int only = 0;
            for (int i = 0; i < 4; i++) {
                boolean isAbstract = (bits >> i & 1) == 0;
                x.face(1, 2 + i);
                x.member(2 + i, METHOD, 0, PUBLIC, isAbstract ? ABSTRACT : 0);
                only = isAbstract ? only : i;
            }
            int ready = Integer.bitCount(bits);
            for (int m = 0; m < 4; m++) {
                doc.is("choose(" + m + ", 1), not ABSTRACT " + bits, x.choose(m, 1),
                        ready == 1 ? only : due[ready]);
            }
        }
        doc.is("choose(119, 1), of twelve", Worlds.ofManyFaces(METHOD, 0).choose(119, 1), TWO);
        doc.is("choose(0, 1), of twelve", Worlds.ofManyFaces(METHOD, 0).choose(0, 1), TWO);
        doc.is("choose(0, 1), all ABSTRACT", Worlds.ofManyFaces(METHOD, 4).choose(0, 1), NONE);
    }

    // INTERFACES 1 to 38 in line, CLASS 39 with the last one as FACE.
    private static AccessJudge lineOfInterfaces() {
        AccessJudge x = Worlds.withTypes("i".repeat(38) + "c");
        for (int i = 2; i <= 38; i++) {
            x.face(i, i - 1);
        }
        x.face(39, 38);
        return x;
    }

    private static void chooseTheLowestOfInterfaces() {
        doc.at(18, "of all METHODS of m's NAME, neither private nor STATIC, that INTERFACES ABOVE t"
                + " DECLARE, those are taken that no other one of these has its DECLARER BELOW:");
        AccessJudge x = lineOfInterfaces();
        x.member(1, METHOD, 0, PUBLIC, 0);
        doc.is("choose(0, 39): one, far ABOVE", x.choose(0, 39), 0);
        x.member(37, METHOD, 0, PUBLIC, STATIC);
        x.member(36, METHOD, 0, PRIVATE, 0);
        doc.is("choose(0, 39): STATIC and private ones BELOW it", x.choose(0, 39), 0);
        x.member(2, METHOD, 0, PUBLIC, 0);
        doc.is("choose(0, 39): one BELOW it", x.choose(0, 39), 3);
        doc.is("choose(3, 39): that one", x.choose(3, 39), 3);
        x.member(38, METHOD, 0, PUBLIC, ABSTRACT);
        doc.is("choose(0, 39): an ABSTRACT one BELOW both", x.choose(0, 39), NONE);
        AccessJudge y = Worlds.withTypes("iic");
        y.face(3, 1);
        y.face(2, 1);
        y.member(1, METHOD, 0, PUBLIC, 0);
        y.member(2, METHOD, 0, PUBLIC, 0);
        doc.is("choose(0, 3): the one BELOW is not ABOVE t", y.choose(0, 3), 0);
        AccessJudge z = Worlds.withTypes("c");
        z.type(0, 1, INTERFACE, PUBLIC, STATIC);
        z.type(0, 2, INTERFACE, PUBLIC, STATIC);
        z.face(1, 2);
        z.face(1, 3);
        z.member(2, METHOD, 0, PUBLIC, 0);
        doc.is("choose(0, 1): of an INTERFACE within t", z.choose(0, 1), 0);
        z.member(3, METHOD, 0, PUBLIC, 0);
        doc.is("choose(0, 1): of two within t", z.choose(0, 1), TWO);
        z.face(3, 2);
        doc.is("choose(0, 1): of which one is BELOW now", z.choose(0, 1), 1);
    }

    private static void chooseRefused() {
        doc.at(18, NOTHING_CHANGED);
        AccessJudge x = threeKinds();
        doc.is("choose(0, 2)", x.choose(0, 2), BAD);
        doc.is("choose(4, 1)", x.choose(4, 1), BAD);
        doc.is("choose(4, 3)", x.choose(4, 3), BAD);
        doc.is("choose(6, 2)", x.choose(6, 2), BAD);
        doc.is("choose(1, 2)", x.choose(1, 2), 4);
        doc.is("choose(1, 1)", x.choose(1, 1), 1);
        doc.is("count(2)", x.count(2), 3);
    }

    private static void checkBounds() {
        doc.at(19, "How many FAULTS a TYPE has. BAD.");
        doc.taken("check(t) of a new one, t", 0, 0, v -> new AccessJudge().check(v));
        doc.taken("check(t), t", 0, 31, v -> Worlds.inLine(31).check(v));
        doc.taken("check(t), t", 0, 39, v -> Worlds.full().check(v));
    }

    // CLASS 1, in PACKAGE 1: its PARENT 2, which is FINAL, and its FACES 3 to 6 are not OPEN to it.
    // Of NAMES 0 to 5 it DECLARES private METHODS, 0 to 5, and 2 STATIC FINAL ones, 6 to 11; of
    // NAMES 6 to 9 the INTERFACES 11 to 37, which have none BELOW them but 3 to 10, DECLARE all
    // others. With 120 MEMBERS and 40 TYPES there is no way to more FAULTS.
    private static AccessJudge mostFaults() {
        AccessJudge x = Worlds.withPacks(1);
        x.type(1, TOP, CLASS, PUBLIC, 0);
        x.type(0, TOP, CLASS, PACKAGE, FINAL);
        for (int t = 3; t <= 38; t++) {
            x.type(0, TOP, INTERFACE, t <= 6 ? PACKAGE : PUBLIC, 0);
        }
        x.parent(1, 2);
        for (int i = 6; i >= 3; i--) {
            x.face(1, i);
        }
        for (int n = 0; n < 32; n++) {
            x.face(3 + n / 4, 7 + n);
        }
        for (int m = 0; m < 12; m++) {
            boolean isOwn = m < 6;
            x.member(isOwn ? 1 : 2, METHOD, m % 6, isOwn ? PRIVATE : PUBLIC,
                    isOwn ? 0 : STATIC + FINAL);
        }
        for (int m = 12; m < 120; m++) {
            x.member(11 + (m - 12) / 4, METHOD, 6 + m % 4, PUBLIC,
                    isAbstractInMostFaults(m) ? ABSTRACT : 0);
        }
        return x;
    }

    private static boolean isAbstractInMostFaults(int m) {
        return (m / 4 + m) % 2 == 0;
    }

    /** The FAULTS of its CLASS 1, in order: a code and a number for each. */
    private static int[] dueInMostFaults() {
        StringBuilder due = new StringBuilder("1 2 2 3 2 4 2 5 2 6 3 2");
        for (int n = 0; n < 18; n++) {
            due.append(' ').append(4 + n / 6).append(' ').append(n % 6);
        }
        for (int code = 7; code <= 8; code++) {
            for (int m = 12; m < 120; m++) {
                if (isAbstractInMostFaults(m) == (code == 7)) {
                    due.append(' ').append(code).append(' ').append(m);
                }
            }
        }
        return Arrays.stream(due.toString().split(" ")).mapToInt(Integer::parseInt).toArray();
    }

    private static void checkNoneAndMost() {
        doc.at(19, "How many FAULTS a TYPE has. BAD.");
        doc.is("check(0) of a new one", new AccessJudge().check(0), 0);
        AccessJudge full = Worlds.full();
        doc.is("check(0)", full.check(0), 0);
        doc.is("check(39)", full.check(39), 0);
        AccessJudge x = mostFaults();
        doc.is("check(1): PARENT twice, 4 FACES, 6 METHODS d thrice, 108 METHODS", x.check(1), 132);
        doc.is("check(2)", x.check(2), 0);
        doc.is("check(10): an INTERFACE's METHODS may be ABSTRACT", x.check(10), 6);
        doc.at(20, ORDER);
        has("most FAULTS", mostFaults(), 1, dueInMostFaults());
    }

    private static void faultBounds() {
        doc.at(20, "FAULT i of a TYPE: 0 its code, 1 the number it is of (codes 1, 3: the PARENT, "
                + "2: the FACE, 4 to 6: d, 7, 8: the METHOD). BAD.");
        doc.taken("fault(t, 0, 0) of a new one, t", 0, -1, v -> new AccessJudge().fault(v, 0, 0));
        doc.taken("fault(0, i, 0) of a new one, i", 0, -1, v -> new AccessJudge().fault(0, v, 0));
        doc.taken("fault(0, 0, what) of a new one", 0, -1, v -> new AccessJudge().fault(0, 0, v));
        doc.taken("fault(t, 0, 0) with FAULTS of 1 alone, t", 1, 1, v -> oneFault().fault(v, 0, 0));
        for (int what = 0; what <= 1; what++) {
            int asked = what;
            doc.taken("fault(1, i, what), one FAULT, i", 0, 0, v -> oneFault().fault(1, v, asked));
            doc.taken("fault(1, i, what), most FAULTS, i", 0, 131,
                    v -> mostFaults().fault(1, v, asked));
            doc.taken("fault(2, i, what), no FAULT, i", 0, -1,
                    v -> mostFaults().fault(2, v, asked));
        }
        doc.taken("fault(1, 0, what), what", 0, 1, v -> oneFault().fault(1, 0, v));
        doc.taken("fault(1, 131, what), what", 0, 1, v -> mostFaults().fault(1, 131, v));
        doc.taken("fault(t, 0, 0), all CLASSES FINAL, t", 2, 39, v -> allFinal().fault(v, 0, 0));
    }

    // CLASS 1 BELOW CLASS 2, which is FINAL.
    private static AccessJudge oneFault() {
        AccessJudge x = Worlds.withTypes("c");
        x.type(0, TOP, CLASS, PUBLIC, FINAL);
        x.parent(1, 2);
        return x;
    }

    private static AccessJudge allFinal() {
        AccessJudge x = new AccessJudge();
        for (int t = 1; t <= 39; t++) {
            x.type(0, TOP, CLASS, PUBLIC, FINAL);
            x.parent(t, t - 1);
        }
        return x;
    }

    /** The FAULTS of a TYPE, in order: a code and a number for each. */
    private static void has(String where, AccessJudge x, int t, int... codesAndNumbers) {
        int many = codesAndNumbers.length / 2;
        doc.is("check(" + t + "), " + where, x.check(t), many);
        for (int i = 0; i < many; i++) {
            doc.is("fault(" + t + ", " + i + ", 0), " + where, x.fault(t, i, 0),
                    codesAndNumbers[2 * i]);
            doc.is("fault(" + t + ", " + i + ", 1), " + where, x.fault(t, i, 1),
                    codesAndNumbers[2 * i + 1]);
        }
        doc.is("fault(" + t + ", " + many + ", 0), " + where, x.fault(t, many, 0), BAD);
        doc.is("fault(" + t + ", -1, 0), " + where, x.fault(t, -1, 0), BAD);
    }

    private static void faultsOfParentAndFaces() {
        doc.at(19, "1 its PARENT is not OPEN to t; 2 a FACE is not; 3 its PARENT is FINAL;");
        for (int access = PACKAGE; access <= PUBLIC; access += 2) {
            for (int flags = 0; flags <= FINAL; flags += 2) {
                for (int pack = 0; pack <= 1; pack++) {
                    AccessJudge x = Worlds.withPacks(1);
                    x.type(0, TOP, CLASS, access, flags);
                    x.type(pack, TOP, CLASS, PUBLIC, 0);
                    x.parent(2, 1);
                    boolean isShut = access == PACKAGE && pack == 1;
                    boolean isFinal = flags == FINAL;
                    has("ACCESS " + access + ", FLAGS " + flags + ", PACKAGE " + pack, x, 2,
                            isShut && isFinal ? new int[] {1, 1, 3, 1}
                            : isShut ? new int[] {1, 1}
                            : isFinal ? new int[] {3, 1} : new int[] {});
                }
            }
        }
        AccessJudge y = Worlds.withPacks(1);
        int[] sorts = {CLASS, INTERFACE};
        for (int t = 1; t <= 4; t++) {
            y.type(0, TOP, INTERFACE, t == 2 ? PUBLIC : PACKAGE, 0);
        }
        for (int sort : sorts) {
            y.type(1, TOP, sort, PUBLIC, 0);
        }
        for (int t = 5; t <= 6; t++) {
            has("no FACES", y, t);
            y.face(t, 4);
            has("one", y, t, 2, 4);
            y.face(t, 2);
            has("one of two", y, t, 2, 4);
            y.face(t, 1);
            y.face(t, 3);
            has("by number, not as told", y, t, 2, 1, 2, 3, 2, 4);
        }
    }

    // The FAULTS 4, 5, 6 of METHOD 1, which is d, held against METHOD 0.
    private static void hasAsMet(String where, AccessJudge x, boolean isMet, boolean isGreater,
            boolean isFinal, boolean isStaticAlone) {
        boolean[] broken = {isMet && isGreater, isMet && isFinal, isMet && isStaticAlone};
        int many = 0;
        for (int code = 4; code <= 6; code++) {
            if (broken[code - 4]) {
                doc.is("fault(2, " + many + ", 0), " + where, x.fault(2, many, 0), code);
                doc.is("fault(2, " + many + ", 1), " + where, x.fault(2, many, 1), 1);
                many++;
            }
        }
        doc.is("check(2), " + where, x.check(2), many);
    }

    private static void eachPair(int pack) {
        for (int access = 0; access < 4; access++) {
            for (int own = 0; own < 4; own++) {
                for (int flags = 0; flags < 16; flags++) {
                    int aFlags = flags % 4;
                    int dFlags = flags / 4;
                    boolean isMet = access >= PROTECTED || access == PACKAGE && pack == 0;
                    hasAsMet("a " + access + " " + aFlags + ", d " + own + " " + dFlags,
                            twoMethods(pack, access, aFlags, own, dFlags), isMet, access > own,
                            (aFlags & FINAL) != 0, (aFlags & STATIC) != (dFlags & STATIC));
                }
            }
        }
    }

    private static void faultsOfMethods() {
        doc.at(19, "4 there is one with greater ACCESS than d; 5 there is one that is FINAL; 6 "
                + "there is one such that just one of both is STATIC (each once for each d);");
        eachPair(0);
    }

    private static void faultsOfMethodsElsewhere() {
        doc.at(19, MET);
        eachPair(1);
        AccessJudge x = Worlds.withPacks(1);
        Worlds.addTypes(x, "cc");
        x.type(1, TOP, CLASS, PUBLIC, 0);
        x.parent(2, 1);
        x.parent(3, 2);
        x.member(1, METHOD, 0, PACKAGE, FINAL);
        x.member(3, METHOD, 0, PUBLIC, 0);
        has("package, elsewhere", x, 3);
        x.member(2, METHOD, 0, PUBLIC, 0);
        has("package, elsewhere, but d OVERRIDES it", x, 3, 5, 1);
        AccessJudge y = Worlds.withTypes("ccc");
        y.parent(2, 1);
        y.member(1, METHOD, 0, PUBLIC, FINAL);
        y.member(3, METHOD, 0, PRIVATE, STATIC);
        y.member(2, METHOD, 1, PRIVATE, STATIC);
        y.member(2, FIELD, 0, PRIVATE, 0);
        y.member(2, MAKER, 0, PRIVATE, 0);
        has("not ABOVE", y, 3);
        has("another NAME, other kinds", y, 2);
        has("its own", y, 1);
    }

    private static void faultsOfMethodsOfInterfaces() {
        doc.at(19, "but not STATIC ones of INTERFACES (with none of these d has no FAULT)");
        for (int flags : new int[] {0, STATIC, ABSTRACT}) {
            for (int access = 0; access <= PUBLIC; access += 3) {
                for (int own = 0; own < 4; own++) {
                    for (int ownFlags = 0; ownFlags <= 1; ownFlags++) {
                        if (flags == ABSTRACT && access == PRIVATE) {
                            continue;
                        }
                        AccessJudge x = Worlds.withTypes("ic");
                        x.face(2, 1);
                        x.member(1, METHOD, 0, access, flags);
                        x.member(2, METHOD, 0, own, ownFlags);
                        boolean isMet = access == PUBLIC && flags != STATIC;
                        hasAsMet("a " + access + " " + flags + ", d " + own + " " + ownFlags, x,
                                isMet, access > own, false, ownFlags == STATIC);
                    }
                }
            }
        }
        AccessJudge y = Worlds.withTypes("cii");
        y.face(1, 2);
        y.face(2, 3);
        y.member(3, METHOD, 0, PUBLIC, 0);
        y.member(2, METHOD, 0, PRIVATE, STATIC);
        has("an INTERFACE's own", y, 2, 4, 1, 6, 1);
    }

    private static void faultsOnceForEach() {
        doc.at(19, "(each once for each d)");
        AccessJudge x = Worlds.inLine(11);
        for (int name = 0; name <= 1; name++) {
            for (int t = 1; t <= 10; t++) {
                x.member(t, METHOD, name, PUBLIC, STATIC + FINAL);
            }
        }
        x.member(11, METHOD, 1, PRIVATE, 0);
        x.member(11, METHOD, 0, PRIVATE, 0);
        has("two d, ten a each", x, 11, 4, 20, 4, 21, 5, 20, 5, 21, 6, 20, 6, 21);
        AccessJudge y = Worlds.inLine(2);
        for (int m = 0; m < 20; m++) {
            y.member(1 + m / 10, METHOD, m % 10, m < 10 ? PUBLIC : PRIVATE, m < 10 ? 3 : 0);
        }
        doc.is("check(2): all NAMES, three each", y.check(2), 30);
        for (int i = 0; i < 30; i++) {
            doc.is("fault(2, " + i + ", 0)", y.fault(2, i, 0), 4 + i / 10);
            doc.is("fault(2, " + i + ", 1)", y.fault(2, i, 1), 10 + i % 10);
        }
    }

    private static void faultsOfAbstractOnes() {
        doc.at(19, "7 t is a CLASS, not ABSTRACT: a METHOD that is a MEMBER OF it is ABSTRACT;");
        AccessJudge x = Worlds.withTypes("i");
        x.type(0, TOP, CLASS, PUBLIC, ABSTRACT);
        Worlds.addTypes(x, "cc");
        x.face(2, 1);
        x.parent(3, 2);
        x.parent(4, 3);
        x.member(2, METHOD, 5, PROTECTED, ABSTRACT);
        x.member(1, METHOD, 0, PUBLIC, ABSTRACT);
        x.member(2, METHOD, 4, PROTECTED, 0);
        has("an INTERFACE", x, 1);
        has("an ABSTRACT CLASS", x, 2);
        has("a CLASS", x, 3, 7, 0, 7, 1);
        has("a CLASS BELOW it", x, 4, 7, 0, 7, 1);
        x.member(3, METHOD, 5, PROTECTED, 0);
        has("one DECLARED", x, 3, 7, 1);
        has("one INHERITED", x, 4, 7, 1);
        x.member(3, METHOD, 0, PUBLIC, 0);
        has("all DECLARED", x, 3);
        has("all INHERITED", x, 4);
    }

    // CLASS 1 with FACES 2 and 3; METHOD 0 is of 2, METHOD 1, as told, of 3.
    private static AccessJudge rivals(int classFlags, int access, int flags) {
        AccessJudge x = new AccessJudge();
        x.type(0, TOP, CLASS, PUBLIC, classFlags);
        Worlds.addTypes(x, "ii");
        x.face(1, 2);
        x.face(1, 3);
        x.member(2, METHOD, 0, PUBLIC, 0);
        x.member(3, METHOD, 0, access, flags);
        return x;
    }

    private static void faultsOfRivals() {
        doc.at(19, "8 a METHOD that is a MEMBER OF it is of an INTERFACE, not ABSTRACT, not "
                + "private, not STATIC, and there is another METHOD of its NAME, neither private "
                + "nor STATIC, that is a MEMBER OF t (told for each such one).");
        has("two", rivals(0, PUBLIC, 0), 1, 8, 0, 8, 1);
        has("two of an ABSTRACT CLASS", rivals(ABSTRACT, PUBLIC, 0), 1, 8, 0, 8, 1);
        has("one ABSTRACT", rivals(0, PUBLIC, ABSTRACT), 1, 7, 1, 8, 0);
        has("one ABSTRACT of an ABSTRACT CLASS", rivals(ABSTRACT, PUBLIC, ABSTRACT), 1, 8, 0);
        has("one STATIC", rivals(0, PUBLIC, STATIC), 1);
        has("one private", rivals(0, PRIVATE, 0), 1);
        AccessJudge x = rivals(0, PUBLIC, 0);
        x.face(3, 2);
        has("one BELOW the other", x, 1);
        AccessJudge y = rivals(0, PUBLIC, 0);
        y.member(1, METHOD, 0, PUBLIC, 0);
        has("DECLARED by t", y, 1);
        AccessJudge z = Worlds.withTypes("i");
        z.type(0, TOP, CLASS, PUBLIC, ABSTRACT);
        z.type(0, TOP, CLASS, PUBLIC, ABSTRACT);
        z.parent(3, 2);
        z.face(3, 1);
        z.member(1, METHOD, 0, PUBLIC, 0);
        has("one alone", z, 3);
        z.member(2, METHOD, 0, PUBLIC, ABSTRACT);
        has("beside a CLASS's ABSTRACT one", z, 3, 8, 0);
        AccessJudge w = Worlds.ofManyFaces(METHOD, 0);
        doc.is("check(1): each of twelve of each NAME", w.check(1), 120);
        doc.is("check(2): each of three, of an INTERFACE", w.check(2), 30);
        doc.is("check(6): each alone", w.check(6), 0);
        doc.is("fault(1, 119, 1)", w.fault(1, 119, 1), 119);
    }

    private static void faultRefused() {
        doc.at(20, NOTHING_CHANGED);
        AccessJudge x = oneFault();
        doc.is("fault(1, 1, 0)", x.fault(1, 1, 0), BAD);
        doc.is("fault(1, 0, 2)", x.fault(1, 0, 2), BAD);
        doc.is("fault(3, 0, 0)", x.fault(3, 0, 0), BAD);
        doc.is("fault(2, 0, 0)", x.fault(2, 0, 0), BAD);
        doc.is("check(3)", x.check(3), BAD);
        doc.is("check(1)", x.check(1), 1);
        doc.is("fault(1, 0, 0)", x.fault(1, 0, 0), 3);
        doc.is("fault(1, 0, 1)", x.fault(1, 0, 1), 2);
        doc.is("check(2)", x.check(2), 0);
        doc.is("fault(1, 0, 1): as before", x.fault(1, 0, 1), 2);
    }
}
