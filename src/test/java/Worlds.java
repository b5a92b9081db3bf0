/** Objects that tests begin with, each made with less than 256 calls. */
final class Worlds {
    private Worlds() {
    }

    static AccessJudge withModules(int more) {
        AccessJudge x = new AccessJudge();
        for (int m = 0; m < more; m++) {
            x.module();
        }
        return x;
    }

    /** PACKAGES 1, .. of MODULE 0. */
    static AccessJudge withPacks(int more) {
        AccessJudge x = new AccessJudge();
        for (int p = 0; p < more; p++) {
            x.pack(0);
        }
        return x;
    }

    /** TYPES 1, .. of PACKAGE 0, public, at the top: a letter for each, 'c', 'i' as sort. */
    static AccessJudge withTypes(String sorts) {
        AccessJudge x = new AccessJudge();
        addTypes(x, sorts);
        return x;
    }

    static void addTypes(AccessJudge x, String sorts) {
        for (char sort : sorts.toCharArray()) {
            x.type(0, -1, sort == 'i' ? 1 : 0, 3, 0);
        }
    }

    /** Each CLASS within the one before it, from TYPE 1 on, all public. */
    static AccessJudge nested(int more) {
        AccessJudge x = new AccessJudge();
        for (int t = 1; t <= more; t++) {
            x.type(0, t == 1 ? -1 : t - 1, 0, 3, 0);
        }
        return x;
    }

    /** CLASSES 1, .., each with the one before it as PARENT. */
    static AccessJudge inLine(int more) {
        AccessJudge x = withTypes("c".repeat(more));
        for (int t = 2; t <= more; t++) {
            x.parent(t, t - 1);
        }
        return x;
    }

    /** As many of each kind as there may be: CLASSES in line, the first 12 with all METHODS. */
    static AccessJudge full() {
        AccessJudge x = inLine(39);
        for (int m = 1; m < 6; m++) {
            x.module();
        }
        for (int p = 1; p < 10; p++) {
            x.pack(p % 6);
        }
        for (int m = 0; m < 120; m++) {
            x.member(m / 10, 1, m % 10, 3, 0);
        }
        return x;
    }

    /**
     * TYPE 1, a CLASS, with FACES 2 to 5, each of which has 3 of 6 to 17 as FACES: these DECLARE
     * all the MEMBERS that there may be, 10 each, public, of one kind.
     */
    static AccessJudge ofManyFaces(int kind, int flags) {
        AccessJudge x = withTypes("c" + "i".repeat(16));
        for (int i = 2; i <= 5; i++) {
            x.face(1, i);
            for (int n = 0; n < 3; n++) {
                x.face(i, 3 * i + n);
            }
        }
        for (int m = 0; m < 120; m++) {
            x.member(6 + m / 10, kind, m % 10, 3, flags);
        }
        return x;
    }
}
