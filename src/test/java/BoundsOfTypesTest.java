import java.io.IOException;
import java.util.function.Supplier;

/** The edges of promises 6 to 8: TYPES, PARENTS, FACES. */
public final class BoundsOfTypesTest {
    private static final int BAD = AccessJudge.BAD, NONE = AccessJudge.NONE;
    private static final int FULL = AccessJudge.FULL;
    private static final int TOP = -1, CLASS = 0, INTERFACE = 1;
    private static final int PACKAGE = 1, PUBLIC = 3;
    private static final String LIMITS = "MODULES (6 at most), PACKAGES (10), TYPES (40), MEMBERS "
            + "(120) have numbers 0, 1, .., each kind of its own, as they came.";
    private static final String BAD_AHEAD = "Of several the one first told in a call's comment; "
            + "BAD ahead of all.";
    private static final String NOTHING_CHANGED = "What is refused changes nothing.";
    private static Sentences doc;

    public static void main(String[] args) throws IOException {
        doc = new Sentences("BoundsOfTypesTest", args);
        typeBounds();
        typeRules();
        typeRulesInAnotherPackage();
        typeLimits();
        typeRulesAheadOfFull();
        typeBadAheadOfRules();
        typeBadAheadOfFull();
        typeRefused();
        parentBounds();
        parentOfWrongSorts();
        parentNoMoreTheRoot();
        parentItselfOrBelow();
        parentBadAheadOfNone();
        parentRefused();
        faceBounds();
        faceOfWrongSorts();
        faceLimits();
        faceAlreadyOrItselfOrBelow();
        faceNoneAheadOfFull();
        faceBadAheadOfAll();
        faceRefused();
        doc.end(6, 7, 8);
    }

    private static void typeBounds() {
        doc.at(6, "BAD: also no such sort (0, 1), ACCESS (0 .. 3), FLAGS (0 .. 7); then the RULES; "
                + "FULL.");
        doc.taken("type, sort", 0, 1, v -> new AccessJudge().type(0, TOP, v, PUBLIC, 0));
        doc.taken("type, ACCESS", 0, 3, v -> new AccessJudge().type(0, 0, CLASS, v, 0));
        doc.taken("type, FLAGS", 0, 7, v -> new AccessJudge().type(0, 0, CLASS, PUBLIC, v));
        doc.at(6, "A TYPE more, of a PACKAGE, with an OUTER one, or at the top (-1): its number");
        for (int more = 0; more <= 9; more += 3) {
            int most = more;
            doc.taken("type, PACKAGE", 0, most,
                    v -> Worlds.withPacks(most).type(v, TOP, CLASS, PUBLIC, 0));
        }
        for (int more : new int[] {0, 1, 31, 32, 38, 39}) {
            int most = more;
            doc.taken("type, OUTER one", -1, most,
                    v -> Worlds.inLine(most).type(0, v, CLASS, PUBLIC, 0));
        }
    }

    // PACKAGE 0 has CLASS 1 and INTERFACE 2; PACKAGE 1 has neither.
    private static AccessJudge twoTypes() {
        AccessJudge x = Worlds.withTypes("ci");
        x.pack(0);
        return x;
    }

    private static AccessJudge fullOfTypes() {
        AccessJudge x = Worlds.withTypes("ci" + "c".repeat(37));
        x.pack(0);
        return x;
    }

    /** A row for each ACCESS, a digit for each sum of FLAGS: the RULE that is broken, or 0. */
    private static void rules(Supplier<AccessJudge> start, int added, int pack, int outer, int sort,
            String... rows) {
        for (int access = 0; access < 4; access++) {
            for (int flags = 0; flags < 8; flags++) {
                int rule = rows[access].charAt(flags) - '0';
                doc.is(Calls.text(Calls.TYPE, pack, outer, sort, access, flags),
                        start.get().type(pack, outer, sort, access, flags),
                        rule == 0 ? added : -10 - rule);
            }
        }
    }

    private static void typeRules(Supplier<AccessJudge> start, int added) {
        doc.at(6, "1 at the top it is package or public, and not STATIC;");
        rules(start, added, 0, TOP, CLASS, "11111111", "01010141", "11111111", "01010141");
        doc.at(6, "4 an INTERFACE is not FINAL; not FINAL and ABSTRACT at once.");
        rules(start, added, 0, TOP, INTERFACE, "11111111", "01410141", "11111111", "01410141");
        rules(start, added, 0, 0, CLASS, "00000044", "00000044", "00000044", "00000044");
        rules(start, added, 0, 1, CLASS, "00000044", "00000044", "00000044", "00000044");
        doc.at(6, "3 in an INTERFACE it is public and STATIC; "
                + "an INTERFACE with an OUTER one is STATIC;");
        rules(start, added, 0, 1, INTERFACE, "30343034", "30343034", "30343034", "30343034");
        rules(start, added, 0, 2, CLASS, "33333333", "33333333", "33333333", "30303034");
        rules(start, added, 0, 2, INTERFACE, "33333333", "33333333", "33333333", "30343034");
    }

    private static void typeRules() {
        typeRules(BoundsOfTypesTest::twoTypes, 3);
    }

    private static void typeRulesInAnotherPackage() {
        doc.at(6, "2 the OUTER one has the same PACKAGE;");
        String all = "22222222";
        for (int outer = 0; outer <= 2; outer++) {
            rules(BoundsOfTypesTest::twoTypes, 3, 1, outer, CLASS, all, all, all, all);
            rules(BoundsOfTypesTest::twoTypes, 3, 1, outer, INTERFACE, all, all, all, all);
        }
        AccessJudge x = twoTypes();
        x.type(1, TOP, CLASS, PUBLIC, 0);
        doc.is("type(0, 3, 0, 3, 0)", x.type(0, 3, CLASS, PUBLIC, 0), -12);
        doc.is("type(1, 3, 0, 3, 0)", x.type(1, 3, CLASS, PUBLIC, 0), 4);
        doc.is("type(1, 4, 0, 3, 0)", x.type(1, 4, CLASS, PUBLIC, 0), 5);
        doc.is("type(0, 4, 0, 3, 0)", x.type(0, 4, CLASS, PUBLIC, 0), -12);
    }

    private static void typeLimits() {
        doc.at(6, LIMITS);
        AccessJudge x = new AccessJudge();
        for (int t = 1; t <= 39; t++) {
            doc.is("type at the top or within", x.type(0, t % 4 == 3 ? t - 1 : TOP, CLASS, PUBLIC,
                    0), t);
            doc.is("count(2)", x.count(2), t + 1);
        }
        for (int n = 0; n < 3; n++) {
            doc.is("type: one more", x.type(0, TOP, CLASS, PUBLIC, 0), FULL);
        }
        doc.is("type: one more within", x.type(0, 39, CLASS, PUBLIC, 0), FULL);
        doc.is("type: one more INTERFACE", x.type(0, TOP, INTERFACE, PUBLIC, 0), FULL);
        doc.is("count(2)", x.count(2), 40);
        doc.is("about(39, 1): the last one's OUTER one", x.about(39, 1), 38);
        doc.is("about(39, 3): the last one's PARENT", x.about(39, 3), 0);
        doc.is("about(0, 6): all are BELOW THE ROOT", x.about(0, 6), 39);
        doc.is("member(39, 0, 0, 3, 0)", x.member(39, 0, 0, 3, 0), 0);
        doc.is("about(38, 5): the one beside it has none", x.about(38, 5), 0);
    }

    private static void typeRulesAheadOfFull() {
        typeRules(BoundsOfTypesTest::fullOfTypes, FULL);
        doc.at(6, "then the RULES; FULL.");
        AccessJudge x = fullOfTypes();
        doc.is("type(1, 1, 0, 3, 0): RULE 2 ahead of FULL", x.type(1, 1, CLASS, PUBLIC, 0), -12);
        doc.is("type(1, -1, 0, 3, 0): no room", x.type(1, TOP, CLASS, PUBLIC, 0), FULL);
    }

    private static void typeBadAheadOfRules() {
        doc.at(6, BAD_AHEAD);
        doc.taken("type with RULE 1 broken, FLAGS", 0, 7, v -> twoTypes().type(0, TOP, 0, 0, v));
        doc.taken("type with RULE 1 broken, sort", 0, 1, v -> twoTypes().type(0, TOP, v, 0, 1));
        doc.taken("type with RULE 1 broken, ACCESS", 0, 3, v -> twoTypes().type(0, TOP, 0, v, 1));
        doc.taken("type with RULE 1 broken, PACKAGE", 0, 1, v -> twoTypes().type(v, TOP, 0, 0, 1));
        doc.taken("type with RULE 2 broken, OUTER one", -1, 2, v -> twoTypes().type(1, v, 0, 3, 0));
        doc.taken("type with RULE 2 broken, FLAGS", 0, 7, v -> twoTypes().type(1, 1, 0, 3, v));
        doc.taken("type with RULE 2 broken, PACKAGE", 0, 1, v -> twoTypes().type(v, 1, 0, 3, 0));
        doc.taken("type with RULE 3 broken, ACCESS", 0, 3, v -> twoTypes().type(0, 2, 0, v, 0));
        doc.taken("type with RULE 3 broken, sort", 0, 1, v -> twoTypes().type(0, 2, v, 0, 0));
        doc.taken("type with RULE 4 broken, ACCESS", 0, 3, v -> twoTypes().type(0, 1, 0, v, 6));
    }

    private static void typeBadAheadOfFull() {
        doc.at(6, BAD_AHEAD);
        doc.taken("type with no room, PACKAGE", 0, 1,
                v -> fullOfTypes().type(v, TOP, CLASS, PUBLIC, 0));
        doc.taken("type with no room, OUTER one", -1, 39,
                v -> fullOfTypes().type(0, v, CLASS, PUBLIC, 0));
        doc.taken("type with no room, sort", 0, 1, v -> fullOfTypes().type(0, TOP, v, PUBLIC, 0));
        doc.taken("type with no room, ACCESS", 0, 3, v -> fullOfTypes().type(0, 1, CLASS, v, 0));
        doc.taken("type with no room, FLAGS", 0, 7, v -> fullOfTypes().type(0, 1, CLASS, 3, v));
    }

    private static void typeRefused() {
        doc.at(6, NOTHING_CHANGED);
        AccessJudge x = twoTypes();
        doc.is("type(0, -1, 0, 0, 0)", x.type(0, TOP, CLASS, 0, 0), -11);
        doc.is("type(1, 1, 0, 3, 0)", x.type(1, 1, CLASS, PUBLIC, 0), -12);
        doc.is("type(0, 2, 0, 3, 0)", x.type(0, 2, CLASS, PUBLIC, 0), -13);
        doc.is("type(0, 1, 0, 3, 6)", x.type(0, 1, CLASS, PUBLIC, 6), -14);
        doc.is("type(2, -1, 0, 3, 0)", x.type(2, TOP, CLASS, PUBLIC, 0), BAD);
        doc.is("count(2)", x.count(2), 3);
        doc.is("about(3, 0): there is no TYPE 3", x.about(3, 0), BAD);
        doc.is("about(0, 6): BELOW THE ROOT is still one", x.about(0, 6), 1);
        doc.is("type(1, -1, 1, 1, 0)", x.type(1, TOP, INTERFACE, PACKAGE, 0), 3);
        doc.is("about(3, 0): its own PACKAGE", x.about(3, 0), 1);
        doc.is("about(3, 1): nothing of the refused ones", x.about(3, 1), NONE);
        doc.is("about(3, 2): nothing of the refused ones", x.about(3, 2), 3);
        doc.is("about(3, 3): nothing of the refused ones", x.about(3, 3), NONE);
        doc.is("face(1, 3): it is an INTERFACE", x.face(1, 3), 1);
        doc.is("below(3, 0): it is not BELOW THE ROOT", x.below(3, 0), 0);
    }

    private static void parentBounds() {
        doc.at(7, "BAD: no such TYPES, or one is no CLASS, or t is THE ROOT;");
        doc.taken("parent(t, 0), t", 1, 0, v -> new AccessJudge().parent(v, 0));
        for (int more : new int[] {1, 31, 32, 39}) {
            String classes = "c".repeat(more);
            doc.taken("parent(t, 1), t", 1, more, v -> Worlds.withTypes(classes).parent(v, 1));
            doc.taken("parent(t, 0), t", 1, more, v -> Worlds.withTypes(classes).parent(v, 0));
            doc.taken("parent(1, p), p", 0, more, v -> Worlds.withTypes(classes).parent(1, v));
        }
    }

    private static void parentOfWrongSorts() {
        doc.at(7, "BAD: no such TYPES, or one is no CLASS, or t is THE ROOT;");
        AccessJudge x = Worlds.withTypes("cici");
        doc.is("parent(2, 1): t is no CLASS", x.parent(2, 1), BAD);
        doc.is("parent(1, 2): p is no CLASS", x.parent(1, 2), BAD);
        doc.is("parent(2, 4): neither is", x.parent(2, 4), BAD);
        doc.is("parent(2, 2): one that is no CLASS", x.parent(2, 2), BAD);
        doc.is("parent(2, 0): not THE ROOT, either", x.parent(2, 0), BAD);
        doc.is("parent(0, 1): t is THE ROOT", x.parent(0, 1), BAD);
        doc.is("parent(0, 2): t is THE ROOT, p no CLASS", x.parent(0, 2), BAD);
        doc.is("parent(1, 3): both are CLASSES", x.parent(1, 3), 1);
    }

    private static void parentNoMoreTheRoot() {
        doc.at(7, "NONE: t's PARENT is not THE ROOT any more, or p is t or BELOW it.");
        AccessJudge x = Worlds.withTypes("cccc");
        doc.is("parent(1, 0): it is THE ROOT", x.parent(1, 0), 1);
        doc.is("parent(1, 0): it still is", x.parent(1, 0), 1);
        doc.is("about(1, 3)", x.about(1, 3), 0);
        doc.is("parent(1, 2): another one", x.parent(1, 2), 1);
        doc.is("about(1, 3)", x.about(1, 3), 2);
        for (int p = 0; p <= 4; p++) {
            doc.is("parent(1, " + p + "): not THE ROOT any more", x.parent(1, p), NONE);
        }
        doc.is("parent(2, 3): 2 was told as PARENT, not its own", x.parent(2, 3), 1);
        doc.is("about(1, 3)", x.about(1, 3), 2);
        doc.is("about(2, 3)", x.about(2, 3), 3);
    }

    private static void parentItselfOrBelow() {
        doc.at(7, "NONE: t's PARENT is not THE ROOT any more, or p is t or BELOW it.");
        AccessJudge x = Worlds.inLine(39);
        for (int p = 1; p <= 39; p++) {
            doc.is("parent(1, " + p + "): it is 1 or BELOW it", x.parent(1, p), NONE);
        }
        doc.is("about(1, 3)", x.about(1, 3), 0);
        doc.is("parent(1, 0): THE ROOT is not", x.parent(1, 0), 1);
        AccessJudge y = Worlds.withTypes("c".repeat(39));
        for (int t = 1; t <= 38; t++) {
            doc.is("parent(" + t + ", " + (t + 1) + "): a later one", y.parent(t, t + 1), 1);
        }
        doc.is("parent(39, 1): far BELOW", y.parent(39, 1), NONE);
        doc.is("parent(39, 38): next BELOW", y.parent(39, 38), NONE);
        doc.is("parent(39, 39): itself", y.parent(39, 39), NONE);
        doc.is("below(1, 39)", y.below(1, 39), 1);
    }

    private static void parentBadAheadOfNone() {
        doc.at(7, BAD_AHEAD);
        AccessJudge x = Worlds.withTypes("cci");
        x.parent(1, 2);
        doc.is("parent(0, 0): itself, but THE ROOT", x.parent(0, 0), BAD);
        doc.is("parent(0, 1): BELOW it, but THE ROOT", x.parent(0, 1), BAD);
        doc.is("parent(3, 3): itself, but no CLASS", x.parent(3, 3), BAD);
        doc.is("parent(1, 3): not THE ROOT any more, p no CLASS", x.parent(1, 3), BAD);
        doc.is("parent(1, 4): not THE ROOT any more, no such p", x.parent(1, 4), BAD);
        doc.is("parent(1, -1): not THE ROOT any more, no such p", x.parent(1, -1), BAD);
        doc.is("parent(4, 4): itself, but no such TYPE", x.parent(4, 4), BAD);
    }

    private static void parentRefused() {
        doc.at(7, NOTHING_CHANGED);
        AccessJudge x = Worlds.withTypes("ccci");
        x.parent(1, 2);
        x.member(3, 1, 0, 3, 0);
        doc.is("parent(2, 1)", x.parent(2, 1), NONE);
        doc.is("parent(1, 3)", x.parent(1, 3), NONE);
        doc.is("parent(2, 4)", x.parent(2, 4), BAD);
        doc.is("parent(4, 3)", x.parent(4, 3), BAD);
        doc.is("parent(0, 3)", x.parent(0, 3), BAD);
        doc.is("about(0, 3)", x.about(0, 3), NONE);
        doc.is("about(1, 3)", x.about(1, 3), 2);
        doc.is("about(2, 3)", x.about(2, 3), 0);
        doc.is("about(4, 3)", x.about(4, 3), NONE);
        doc.is("about(3, 6): nothing is BELOW 3", x.about(3, 6), 0);
        doc.is("below(2, 1)", x.below(2, 1), 0);
        doc.is("of(1, 0): nothing came from 3", x.of(1, 0), 0);
        doc.is("parent(2, 3): it may still be told", x.parent(2, 3), 1);
        doc.is("of(1, 0): now it did", x.of(1, 0), 1);
    }

    private static void faceBounds() {
        doc.at(8, "BAD: no such TYPES, or i is no INTERFACE, or t is THE ROOT;");
        doc.taken("face(t, 0), t", 1, 0, v -> new AccessJudge().face(v, 0));
        for (int more : new int[] {1, 30, 31, 38}) {
            String types = "c" + "i".repeat(more);
            int last = more + 1;
            doc.taken("face(t, 2), t", 1, last, v -> Worlds.withTypes(types).face(v, 2));
            doc.taken("face(t, last), t", 1, last, v -> Worlds.withTypes(types).face(v, last));
            doc.taken("face(1, i), i", 2, last, v -> Worlds.withTypes(types).face(1, v));
            doc.taken("face(2, i), i", 2, last, v -> Worlds.withTypes(types).face(2, v));
        }
    }

    private static void faceOfWrongSorts() {
        doc.at(8, "BAD: no such TYPES, or i is no INTERFACE, or t is THE ROOT;");
        AccessJudge x = Worlds.withTypes("cci");
        doc.is("face(1, 2): i is no INTERFACE", x.face(1, 2), BAD);
        doc.is("face(3, 1): i is no INTERFACE, t is", x.face(3, 1), BAD);
        doc.is("face(1, 0): THE ROOT is none", x.face(1, 0), BAD);
        doc.is("face(3, 0): THE ROOT is none", x.face(3, 0), BAD);
        doc.is("face(0, 3): t is THE ROOT", x.face(0, 3), BAD);
        doc.is("face(1, 3): of a CLASS", x.face(1, 3), 1);
    }

    private static void faceLimits() {
        doc.at(8, "A TYPE has FACES, INTERFACES, 4 at most.");
        AccessJudge x = Worlds.withTypes("ciiiiiii");
        for (int t = 1; t <= 2; t++) {
            for (int n = 1; n <= 4; n++) {
                doc.is("face(" + t + ", " + (n + 2) + ")", x.face(t, n + 2), n);
                doc.is("about(" + t + ", 4)", x.about(t, 4), n);
            }
            doc.is("face(" + t + ", 7): one more", x.face(t, 7), FULL);
            doc.is("face(" + t + ", 8): one more", x.face(t, 8), FULL);
            doc.is("about(" + t + ", 4)", x.about(t, 4), 4);
        }
        doc.is("face(1, 2): 2 is no FACE yet, but there is no room", x.face(1, 2), FULL);
        doc.is("face(7, 2): one with 4 of its own may be a FACE", x.face(7, 2), 1);
        doc.is("face(7, 3): what is ABOVE by another way, too", x.face(7, 3), 2);
    }

    private static void faceAlreadyOrItselfOrBelow() {
        doc.at(8, "NONE: it is one of t's already, or is t, or BELOW it;");
        AccessJudge x = Worlds.withTypes("i".repeat(39));
        for (int t = 2; t <= 39; t++) {
            doc.is("face(" + t + ", " + (t - 1) + ")", x.face(t, t - 1), 1);
            doc.is("face(" + t + ", " + (t - 1) + "): already", x.face(t, t - 1), NONE);
        }
        for (int i = 1; i <= 39; i++) {
            doc.is("face(1, " + i + "): it is 1 or BELOW it", x.face(1, i), NONE);
        }
        doc.is("face(39, 1): far ABOVE, yet not its own", x.face(39, 1), 2);
        doc.is("face(39, 1): now it is", x.face(39, 1), NONE);
        AccessJudge y = Worlds.withTypes("cci");
        y.parent(2, 1);
        y.face(1, 3);
        doc.is("face(2, 3): the PARENT's, not yet its own", y.face(2, 3), 1);
        doc.is("face(2, 3): now it is", y.face(2, 3), NONE);
    }

    // INTERFACE 1 has FACES 2 to 5, and 6 is BELOW it.
    private static AccessJudge fullOfFaces() {
        AccessJudge x = Worlds.withTypes("iiiiiiic");
        for (int i = 2; i <= 5; i++) {
            x.face(1, i);
        }
        x.face(6, 1);
        return x;
    }

    private static void faceNoneAheadOfFull() {
        doc.at(8, "NONE: it is one of t's already, or is t, or BELOW it; FULL.");
        AccessJudge x = fullOfFaces();
        for (int i = 2; i <= 5; i++) {
            doc.is("face(1, " + i + "): already, and no room", x.face(1, i), NONE);
        }
        doc.is("face(1, 1): itself, and no room", x.face(1, 1), NONE);
        doc.is("face(1, 6): BELOW it, and no room", x.face(1, 6), NONE);
        doc.is("face(1, 7): no room", x.face(1, 7), FULL);
    }

    private static void faceBadAheadOfAll() {
        doc.at(8, BAD_AHEAD);
        doc.taken("face(1, i) with no room, i", 1, 7, v -> fullOfFaces().face(1, v));
        AccessJudge x = Worlds.withTypes("c");
        doc.is("face(0, 0): itself, but THE ROOT", x.face(0, 0), BAD);
        doc.is("face(1, 1): itself, but no INTERFACE", x.face(1, 1), BAD);
        doc.is("face(2, 2): itself, but no such TYPE", x.face(2, 2), BAD);
        doc.is("face(0, 1): BELOW it, but THE ROOT and no INTERFACE", x.face(0, 1), BAD);
    }

    private static void faceRefused() {
        doc.at(8, NOTHING_CHANGED);
        AccessJudge x = fullOfFaces();
        x.member(6, 0, 0, 3, 1);
        x.member(7, 0, 1, 3, 1);
        doc.is("face(1, 7)", x.face(1, 7), FULL);
        doc.is("face(1, 6)", x.face(1, 6), NONE);
        doc.is("face(1, 2)", x.face(1, 2), NONE);
        doc.is("face(1, 8)", x.face(1, 8), BAD);
        doc.is("face(0, 7)", x.face(0, 7), BAD);
        doc.is("about(1, 4)", x.about(1, 4), 4);
        doc.is("about(0, 4)", x.about(0, 4), 0);
        doc.is("below(1, 7)", x.below(1, 7), 0);
        doc.is("below(1, 6)", x.below(1, 6), 0);
        doc.is("below(0, 7)", x.below(0, 7), 0);
        doc.is("about(7, 6)", x.about(7, 6), 0);
        doc.is("of(1, 0): nothing came from 6", x.of(1, 0), 0);
        doc.is("of(1, 1): nothing came from 7", x.of(1, 1), 0);
        doc.is("face(7, 1): 1 is not BELOW 7", x.face(7, 1), 1);
    }
}
