import java.io.IOException;

/** The edges of promises 1 to 5: what there is from the beginning, MODULES, PACKAGES. */
public final class BoundsOfModulesTest {
    private static final int BAD = AccessJudge.BAD, NONE = AccessJudge.NONE;
    private static final int FULL = AccessJudge.FULL;
    private static final String BEGINNING = "There are from the beginning: MODULE 0, which each "
            + "other one READS; PACKAGE 0 of it, EXPORTED to all; TYPE 0 of that, THE ROOT: a "
            + "CLASS, public, with no FLAGS, no PARENT.";
    private static final String LIMITS = "MODULES (6 at most), PACKAGES (10), TYPES (40), MEMBERS "
            + "(120) have numbers 0, 1, .., each kind of its own, as they came.";
    private static final String BAD_AHEAD = "Of several the one first told in a call's comment; "
            + "BAD ahead of all.";
    private static final String NOTHING_CHANGED = "What is refused changes nothing.";
    private static Sentences doc;

    public static void main(String[] args) throws IOException {
        doc = new Sentences("BoundsOfModulesTest", args);
        nothingYet();
        moduleOfTheBeginning();
        packOfTheBeginning();
        rootIsAClass();
        rootHasNoFlags();
        rootHasNoParent();
        objectsShareNothing();
        lastCall();
        moduleLimits();
        moduleReadsTheFirst();
        moduleRefused();
        readsBounds();
        readsOfAllPairs();
        readsBadAheadOfZero();
        readsRefused();
        packBounds();
        packLimits();
        packRefused();
        packIsExportedToNone();
        exportBounds();
        exportToEachAndToAll();
        exportToAllThatCome();
        exportBadAheadOfZero();
        exportRefused();
        doc.end(1, 2, 3, 4, 5);
    }

    private static void nothingYet() {
        doc.at(1, "What there is from the beginning.");
        AccessJudge x = new AccessJudge();
        doc.is("count(0)", x.count(0), 1);
        doc.is("count(1)", x.count(1), 1);
        doc.is("count(2)", x.count(2), 1);
        doc.is("count(3)", x.count(3), 0);
        doc.is("about(0, 0)", x.about(0, 0), 0);
        doc.is("about(0, 1)", x.about(0, 1), NONE);
        doc.is("about(0, 2)", x.about(0, 2), 0);
        doc.is("about(0, 4)", x.about(0, 4), 0);
        doc.is("about(0, 5)", x.about(0, 5), 0);
        doc.is("about(0, 6)", x.about(0, 6), 0);
        doc.is("of(0, 0): no MEMBER yet", x.of(0, 0), BAD);
        doc.is("overrides(0, 0): no METHOD yet", x.overrides(0, 0), BAD);
        doc.is("choose(0, 0): no METHOD yet", x.choose(0, 0), BAD);
        doc.is("use(0, 2, 0, 0, 0): no FIELD yet", x.use(0, 2, 0, 0, 0), -12);
        doc.is("make(0, 0, 0, 0): no MAKER yet", x.make(0, 0, 0, 0), -12);
        doc.is("below(0, 0)", x.below(0, 0), 0);
        doc.is("open(0, 0)", x.open(0, 0), 1);
        doc.is("check(0)", x.check(0), 0);
        doc.is("fault(0, 0, 0): no FAULT yet", x.fault(0, 0, 0), BAD);
        doc.is("reads(1, 0): no MODULE 1 yet", x.reads(1, 0), BAD);
        doc.is("export(1, 0): no PACKAGE 1 yet", x.export(1, 0), BAD);
        doc.is("parent(1, 0): no TYPE 1 yet", x.parent(1, 0), BAD);
        doc.is("face(1, 0): no TYPE 1 yet", x.face(1, 0), BAD);
    }

    private static void moduleOfTheBeginning() {
        doc.at(1, BEGINNING);
        AccessJudge x = Worlds.withModules(5);
        for (int m = 1; m <= 5; m++) {
            doc.is("reads(" + m + ", 0): it did", x.reads(m, 0), 0);
            doc.is("reads(0, " + m + "): it did not", x.reads(0, m), 1);
        }
    }

    private static void packOfTheBeginning() {
        doc.at(1, BEGINNING);
        AccessJudge x = Worlds.withModules(5);
        doc.is("export(0, -1)", x.export(0, -1), 0);
        for (int m = 0; m <= 5; m++) {
            doc.is("export(0, " + m + ")", x.export(0, m), 0);
            x.pack(m);
            x.type(m + 1, -1, 0, 3, 0);
            doc.is("open(" + (m + 1) + ", 0): from MODULE " + m, x.open(m + 1, 0), 1);
            doc.is("open(0, " + (m + 1) + "): to PACKAGE 0, of MODULE 0", x.open(0, m + 1),
                    m == 0 ? 1 : 0);
        }
    }

    private static void rootIsAClass() {
        doc.at(1, BEGINNING);
        AccessJudge x = Worlds.withTypes("c");
        doc.is("member(0, 2, 0, 3, 0): a CLASS may have MAKERS", x.member(0, 2, 0, 3, 0), 0);
        doc.is("face(1, 0): a CLASS is no FACE", x.face(1, 0), BAD);
        doc.is("parent(1, 0): a CLASS may be PARENT", x.parent(1, 0), 1);
        doc.is("type(0, 0, 0, 0, 0): in a CLASS TYPES may be private", x.type(0, 0, 0, 0, 0), 2);
    }

    private static void rootHasNoFlags() {
        doc.at(1, BEGINNING);
        AccessJudge x = Worlds.withTypes("c");
        doc.is("member(0, 1, 0, 3, 4): it is not ABSTRACT", x.member(0, 1, 0, 3, 4), -17);
        x.member(0, 2, 0, 3, 0);
        x.member(0, 1, 0, 3, 0);
        doc.is("make(1, 0, 0, 0): it is not ABSTRACT", x.make(1, 0, 0, 0), 0);
        doc.is("choose(1, 0): it is not ABSTRACT", x.choose(1, 0), 1);
        doc.is("make(1, 1, 0, 0): it is not FINAL", x.make(1, 1, 0, 0), 0);
        doc.is("check(1): it is not FINAL", x.check(1), 0);
    }

    private static void rootHasNoParent() {
        doc.at(1, BEGINNING);
        AccessJudge x = Worlds.withTypes("ci");
        x.member(0, 1, 0, 3, 0);
        x.member(0, 2, 0, 3, 0);
        doc.is("about(0, 3)", x.about(0, 3), NONE);
        doc.is("use(0, 3, 0, 1, 0)", x.use(0, 3, 0, 1, 0), -11);
        doc.is("make(0, 2, 0, 0)", x.make(0, 2, 0, 0), -11);
        doc.is("parent(0, 1)", x.parent(0, 1), BAD);
        doc.is("face(0, 2)", x.face(0, 2), BAD);
    }

    private static void objectsShareNothing() {
        doc.at(1, "What there is from the beginning.");
        AccessJudge full = Worlds.full();
        AccessJudge x = new AccessJudge();
        for (int what = 0; what < 4; what++) {
            doc.is("count(" + what + ") of a new one", x.count(what), what < 3 ? 1 : 0);
        }
        x.module();
        x.reads(0, 1);
        doc.is("reads(0, 1) of the other one", full.reads(0, 1), 1);
        doc.is("of(0, 0) of a new one", x.of(0, 0), BAD);
    }

    private static void lastCall() {
        doc.at(1, "An object is used for at most 512 calls after it has been made");
        AccessJudge x = new AccessJudge();
        for (int n = 1; n <= 508; n++) {
            doc.is("count(2), call " + n, x.count(2), 1);
        }
        doc.is("type(0, -1, 0, 3, 0), call 509", x.type(0, -1, 0, 3, 0), 1);
        doc.is("member(1, 1, 0, 3, 0), call 510", x.member(1, 1, 0, 3, 0), 0);
        doc.is("module(), call 511", x.module(), 1);
        doc.is("choose(0, 1), call 512", x.choose(0, 1), 0);
        AccessJudge y = new AccessJudge();
        for (int n = 1; n < 512; n++) {
            y.type(0, -1, 0, 0, 0);
        }
        doc.is("type(0, -1, 0, 3, 0), call 512, all others refused", y.type(0, -1, 0, 3, 0), 1);
    }

    private static void moduleLimits() {
        doc.at(2, LIMITS);
        AccessJudge x = new AccessJudge();
        for (int m = 1; m <= 5; m++) {
            doc.is("module()", x.module(), m);
            doc.is("count(0)", x.count(0), m + 1);
        }
        for (int n = 0; n < 3; n++) {
            doc.is("module(): one more", x.module(), FULL);
        }
        doc.is("count(0)", x.count(0), 6);
    }

    private static void moduleReadsTheFirst() {
        doc.at(2, "A MODULE more, which READS MODULE 0: its number. FULL.");
        AccessJudge x = Worlds.withModules(5);
        for (int m = 1; m <= 5; m++) {
            for (int n = 0; n <= 5; n++) {
                doc.is("reads(" + m + ", " + n + ")", x.reads(m, n), n == 0 || n == m ? 0 : 1);
            }
        }
    }

    private static void moduleRefused() {
        doc.at(2, NOTHING_CHANGED);
        AccessJudge x = Worlds.withModules(5);
        doc.is("module()", x.module(), FULL);
        doc.is("reads(6, 0): there is no MODULE 6", x.reads(6, 0), BAD);
        doc.is("pack(6): there is no MODULE 6", x.pack(6), BAD);
        doc.is("export(0, 6): there is no MODULE 6", x.export(0, 6), BAD);
        doc.is("pack(5)", x.pack(5), 1);
        doc.is("reads(5, 4)", x.reads(5, 4), 1);
        doc.is("reads(0, 5)", x.reads(0, 5), 1);
    }

    private static void readsBounds() {
        doc.at(3, "BAD: a number is none that there is, or outside what is told");
        for (int more = 0; more <= 5; more++) {
            int most = more;
            doc.taken("reads(m, 0), m", 0, most, v -> Worlds.withModules(most).reads(v, 0));
            doc.taken("reads(0, n), n", 0, most, v -> Worlds.withModules(most).reads(0, v));
            doc.taken("reads(m, m), m", 0, most, v -> Worlds.withModules(most).reads(v, v));
        }
    }

    private static void readsOfAllPairs() {
        doc.at(3, "MODULE m READS n: 1; 0: it did, or they are one. BAD.");
        AccessJudge x = Worlds.withModules(5);
        for (int m = 0; m <= 5; m++) {
            for (int n = 0; n <= 5; n++) {
                boolean did = m == n || n == 0;
                doc.is("reads(" + m + ", " + n + ")", x.reads(m, n), did ? 0 : 1);
                doc.is("reads(" + m + ", " + n + ") again", x.reads(m, n), 0);
            }
        }
        for (int m = 0; m <= 5; m++) {
            for (int n = 0; n <= 5; n++) {
                doc.is("reads(" + m + ", " + n + ") at last", x.reads(m, n), 0);
            }
        }
    }

    private static void readsBadAheadOfZero() {
        doc.at(3, BAD_AHEAD);
        AccessJudge x = Worlds.withModules(1);
        doc.is("reads(2, 2): one, but none that there is", x.reads(2, 2), BAD);
        doc.is("reads(-1, -1): one, but none that there is", x.reads(-1, -1), BAD);
        doc.is("reads(2, 0): each READS 0, but it is not there", x.reads(2, 0), BAD);
    }

    private static void readsRefused() {
        doc.at(3, NOTHING_CHANGED);
        AccessJudge x = Worlds.withModules(1);
        doc.is("reads(2, 1)", x.reads(2, 1), BAD);
        doc.is("reads(1, 2)", x.reads(1, 2), BAD);
        doc.is("reads(0, 2)", x.reads(0, 2), BAD);
        doc.is("reads(-1, 1)", x.reads(-1, 1), BAD);
        doc.is("reads(33, 1)", x.reads(33, 1), BAD);
        doc.is("module()", x.module(), 2);
        doc.is("reads(2, 1): not yet", x.reads(2, 1), 1);
        doc.is("reads(1, 2): not yet", x.reads(1, 2), 1);
        doc.is("reads(0, 2): not yet", x.reads(0, 2), 1);
        doc.is("reads(0, 1): not yet", x.reads(0, 1), 1);
    }

    private static void packBounds() {
        doc.at(4, "BAD: a number is none that there is, or outside what is told");
        for (int more = 0; more <= 5; more++) {
            int most = more;
            doc.taken("pack(module), module", 0, most, v -> Worlds.withModules(most).pack(v));
        }
    }

    private static void packLimits() {
        doc.at(4, LIMITS);
        AccessJudge x = Worlds.withModules(5);
        for (int p = 1; p <= 9; p++) {
            doc.is("pack(" + p % 6 + ")", x.pack(p % 6), p);
            doc.is("count(1)", x.count(1), p + 1);
        }
        doc.at(4, "A PACKAGE more of a MODULE: its number. BAD; FULL.");
        for (int m = 0; m <= 5; m++) {
            doc.is("pack(" + m + "): one more", x.pack(m), FULL);
        }
        doc.at(4, BAD_AHEAD);
        doc.taken("pack(module) with no room, module", 0, 5, v -> Worlds.full().pack(v));
    }

    private static void packRefused() {
        doc.at(4, NOTHING_CHANGED);
        AccessJudge x = Worlds.withPacks(8);
        doc.is("pack(1)", x.pack(1), BAD);
        doc.is("pack(-1)", x.pack(-1), BAD);
        doc.is("count(1)", x.count(1), 9);
        doc.is("pack(0)", x.pack(0), 9);
        doc.is("pack(0): one more", x.pack(0), FULL);
        doc.is("count(1)", x.count(1), 10);
        doc.is("export(10, -1): there is no PACKAGE 10", x.export(10, -1), BAD);
        doc.is("type(10, -1, 0, 3, 0): there is no PACKAGE 10", x.type(10, -1, 0, 3, 0), BAD);
        doc.is("type(9, -1, 0, 3, 0)", x.type(9, -1, 0, 3, 0), 1);
        doc.is("about(1, 0)", x.about(1, 0), 9);
        doc.is("open(0, 1): PACKAGE 9 is of MODULE 0", x.open(0, 1), 1);
    }

    private static void packIsExportedToNone() {
        doc.at(4, "A PACKAGE is EXPORTED to some MODULES, or to all.");
        AccessJudge x = Worlds.withModules(5);
        for (int p = 1; p <= 6; p++) {
            x.pack(p - 1);
            doc.is("export(" + p + ", " + (p - 1) + ")", x.export(p, p - 1), 1);
            doc.is("export(" + p + ", -1)", x.export(p, -1), 1);
        }
    }

    private static void exportBounds() {
        doc.at(5, "BAD: a number is none that there is, or outside what is told");
        doc.taken("export(pack, 0), pack", 0, 0, v -> new AccessJudge().export(v, 0));
        doc.taken("export(0, to), to", -1, 0, v -> new AccessJudge().export(0, v));
        for (int more = 1; more <= 9; more += 4) {
            int most = more;
            doc.taken("export(pack, -1), pack", 0, most, v -> Worlds.withPacks(most).export(v, -1));
            doc.taken("export(pack, 0), pack", 0, most, v -> Worlds.withPacks(most).export(v, 0));
        }
        for (int more = 0; more <= 5; more++) {
            int most = more;
            doc.taken("export(1, to), to", -1, most, v -> withOnePack(most).export(1, v));
        }
    }

    private static AccessJudge withOnePack(int modules) {
        AccessJudge x = Worlds.withModules(modules);
        x.pack(0);
        return x;
    }

    private static void exportToEachAndToAll() {
        doc.at(5, "A PACKAGE is EXPORTED to a MODULE, to all (-1): 1; 0: it was, or was to all.");
        AccessJudge x = withOnePack(5);
        for (int m = 5; m >= 0; m--) {
            doc.is("export(1, " + m + ")", x.export(1, m), 1);
            doc.is("export(1, " + m + ") again", x.export(1, m), 0);
        }
        doc.is("export(1, -1): to each, not yet to all", x.export(1, -1), 1);
        doc.is("export(1, -1) again", x.export(1, -1), 0);
        for (int m = 0; m <= 5; m++) {
            doc.is("export(1, " + m + "): was to all", x.export(1, m), 0);
        }
    }

    private static void exportToAllThatCome() {
        doc.at(5, "A PACKAGE is EXPORTED to a MODULE, to all (-1): 1; 0: it was, or was to all.");
        AccessJudge x = withOnePack(0);
        doc.is("export(1, -1) of the one MODULE there is", x.export(1, -1), 1);
        for (int m = 1; m <= 5; m++) {
            x.module();
            doc.is("export(1, " + m + "): a later one", x.export(1, m), 0);
        }
        AccessJudge y = withOnePack(0);
        doc.is("export(1, 0): to each that there is", y.export(1, 0), 1);
        for (int m = 1; m <= 5; m++) {
            y.module();
            doc.is("export(1, " + m + "): not to later ones", y.export(1, m), 1);
        }
    }

    private static void exportBadAheadOfZero() {
        doc.at(5, BAD_AHEAD);
        AccessJudge x = new AccessJudge();
        doc.is("export(0, 1): was to all, but there is no MODULE 1", x.export(0, 1), BAD);
        doc.is("export(0, -2): was to all, but there is no such one", x.export(0, -2), BAD);
        doc.is("export(1, -1): to all, but there is no PACKAGE 1", x.export(1, -1), BAD);
        doc.is("export(-1, -1): to all, but there is no such one", x.export(-1, -1), BAD);
        doc.is("export(-1, -2): neither is there", x.export(-1, -2), BAD);
    }

    private static void exportRefused() {
        doc.at(5, NOTHING_CHANGED);
        AccessJudge x = withOnePack(0);
        doc.is("export(1, 1)", x.export(1, 1), BAD);
        doc.is("export(1, -2)", x.export(1, -2), BAD);
        doc.is("export(1, 32)", x.export(1, 32), BAD);
        doc.is("export(2, 0)", x.export(2, 0), BAD);
        doc.is("export(2, -1)", x.export(2, -1), BAD);
        x.module();
        x.pack(0);
        doc.is("export(1, 1): not yet", x.export(1, 1), 1);
        doc.is("export(1, 0): not yet", x.export(1, 0), 1);
        doc.is("export(2, 0): not yet", x.export(2, 0), 1);
        doc.is("export(2, 1): not yet", x.export(2, 1), 1);
        doc.is("export(2, -1): not yet", x.export(2, -1), 1);
    }
}
