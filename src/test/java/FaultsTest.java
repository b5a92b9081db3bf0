/** Promises 19 and 20: the FAULTS of a TYPE. */
public final class FaultsTest {
    private static final int BAD = AccessJudge.BAD;
    private static final Due due = new Due("FaultsTest");

    public static void main(String[] args) {
        parentsAndFaces();
        lessAccess();
        lessAccessAcrossPackages();
        lessAccessThroughSteps();
        finalOnes();
        staticOnes();
        staticOnesOfInterfaces();
        abstractOnes();
        rivalOnes();
        rivalOnesOfInterfaces();
        ordered();
        many();
        due.end();
    }

    private static void has(AccessJudge x, int t, int... codesAndNumbers) {
        due.is("check(" + t + ")", x.check(t), codesAndNumbers.length / 2);
        for (int i = 0; i < codesAndNumbers.length / 2; i++) {
            due.is("fault(" + t + ", " + i + ", 0)", x.fault(t, i, 0), codesAndNumbers[2 * i]);
            due.is("fault(" + t + ", " + i + ", 1)", x.fault(t, i, 1), codesAndNumbers[2 * i + 1]);
        }
        due.is("fault: past the last", x.fault(t, codesAndNumbers.length / 2, 0), BAD);
    }

    private static void parentsAndFaces() {
        AccessJudge x = new AccessJudge();
        x.pack(0);
        x.type(0, -1, 0, 1, 2);
        x.type(0, -1, 1, 1, 0);
        x.type(0, -1, 1, 3, 0);
        x.type(0, -1, 1, 1, 0);
        x.type(1, -1, 0, 3, 0);
        x.parent(5, 1);
        x.face(5, 4);
        x.face(5, 3);
        x.face(5, 2);
        has(x, 5, 1, 1, 2, 2, 2, 4, 3, 1);
        x.type(0, -1, 0, 3, 0);
        x.parent(6, 1);
        x.face(6, 4);
        has(x, 6, 3, 1);
        x.type(1, -1, 1, 3, 0);
        x.face(7, 4);
        has(x, 7, 2, 4);
        has(x, 0);
    }

    private static void lessAccess() {
        AccessJudge x = new AccessJudge();
        x.type(0, -1, 0, 3, 0);
        x.type(0, -1, 0, 3, 0);
        x.parent(2, 1);
        for (int access = 0; access < 4; access++) {
            x.member(1, 1, access, access, 0);
            x.member(2, 1, access, access, 0);
        }
        has(x, 2);
        x.type(0, -1, 0, 3, 0);
        x.parent(3, 1);
        x.member(3, 1, 3, 2, 0);
        x.member(3, 1, 2, 1, 0);
        x.member(3, 1, 1, 0, 0);
        x.member(3, 1, 0, 0, 0);
        has(x, 3, 4, 8, 4, 9, 4, 10);
        x.member(3, 0, 3, 0, 0);
        has(x, 3, 4, 8, 4, 9, 4, 10);
        x.type(0, -1, 0, 3, 0);
        x.parent(4, 2);
        x.member(4, 1, 3, 2, 0);
        has(x, 4, 4, 13);
    }

    private static void lessAccessAcrossPackages() {
        AccessJudge x = new AccessJudge();
        x.pack(0);
        x.type(0, -1, 0, 3, 0);
        x.type(1, -1, 0, 3, 0);
        x.type(0, -1, 0, 3, 0);
        x.parent(2, 1);
        x.parent(3, 2);
        x.member(1, 1, 0, 1, 2);
        x.member(2, 1, 0, 0, 0);
        has(x, 2);
        x.member(3, 1, 0, 0, 0);
        has(x, 3, 4, 2, 5, 2);
    }

    // What is overridden through a step counts, though it has access package elsewhere.
    private static void lessAccessThroughSteps() {
        AccessJudge x = new AccessJudge();
        x.pack(0);
        x.type(0, -1, 0, 3, 0);
        x.type(0, -1, 0, 3, 0);
        x.type(1, -1, 0, 3, 0);
        x.parent(2, 1);
        x.parent(3, 2);
        x.member(1, 1, 0, 1, 2);
        x.member(3, 1, 0, 3, 0);
        has(x, 3);
        x.member(2, 1, 0, 3, 0);
        has(x, 3, 5, 1);
        has(x, 2, 5, 2);
    }

    private static void finalOnes() {
        AccessJudge x = new AccessJudge();
        x.type(0, -1, 0, 3, 0);
        x.type(0, -1, 0, 3, 0);
        x.type(0, -1, 0, 3, 0);
        x.parent(2, 1);
        x.parent(3, 2);
        x.member(0, 1, 0, 3, 2);
        x.member(1, 1, 0, 3, 2);
        x.member(3, 1, 0, 3, 0);
        x.member(1, 1, 1, 0, 2);
        x.member(3, 1, 1, 0, 0);
        x.member(1, 1, 2, 3, 3);
        x.member(3, 1, 2, 3, 1);
        x.member(1, 0, 3, 3, 2);
        x.member(3, 0, 3, 3, 0);
        has(x, 3, 5, 2, 5, 6);
        has(x, 1, 5, 1);
        has(x, 2);
    }

    private static void staticOnes() {
        AccessJudge x = new AccessJudge();
        x.pack(0);
        x.type(0, -1, 0, 3, 0);
        x.type(0, -1, 0, 3, 0);
        x.type(1, -1, 0, 3, 0);
        x.parent(2, 1);
        x.parent(3, 1);
        x.member(1, 1, 0, 1, 1);
        x.member(1, 1, 1, 1, 0);
        x.member(1, 1, 2, 3, 1);
        x.member(2, 1, 0, 1, 0);
        x.member(2, 1, 1, 1, 1);
        x.member(2, 1, 2, 3, 1);
        has(x, 2, 6, 3, 6, 4);
        x.member(3, 1, 0, 1, 0);
        x.member(3, 1, 1, 1, 1);
        x.member(3, 1, 2, 3, 0);
        has(x, 3, 6, 8);
    }

    private static void staticOnesOfInterfaces() {
        AccessJudge x = new AccessJudge();
        x.type(0, -1, 1, 3, 0);
        x.type(0, -1, 0, 3, 0);
        x.face(2, 1);
        x.member(1, 1, 0, 3, 1);
        x.member(2, 1, 0, 0, 0);
        has(x, 2);
        x.member(1, 1, 1, 3, 0);
        x.member(2, 1, 1, 0, 1);
        has(x, 2, 4, 3, 6, 3);
    }

    private static void abstractOnes() {
        AccessJudge x = new AccessJudge();
        x.type(0, -1, 1, 3, 0);
        x.type(0, -1, 0, 3, 4);
        x.type(0, -1, 0, 3, 0);
        x.parent(3, 2);
        x.face(2, 1);
        x.member(2, 1, 1, 2, 4);
        x.member(1, 1, 0, 3, 4);
        x.member(1, 1, 2, 3, 0);
        has(x, 1);
        has(x, 2);
        has(x, 3, 7, 0, 7, 1);
        x.member(3, 1, 0, 3, 0);
        has(x, 3, 7, 0);
        x.member(3, 1, 1, 3, 0);
        has(x, 3);
    }

    private static void rivalOnes() {
        AccessJudge x = new AccessJudge();
        x.type(0, -1, 1, 3, 0);
        x.type(0, -1, 1, 3, 0);
        x.type(0, -1, 0, 3, 4);
        x.face(3, 1);
        x.face(3, 2);
        x.member(1, 1, 0, 3, 0);
        has(x, 3);
        x.member(2, 1, 0, 3, 4);
        has(x, 3, 8, 0);
        x.member(2, 1, 1, 3, 0);
        x.member(1, 1, 1, 3, 0);
        has(x, 3, 8, 0, 8, 2, 8, 3);
        x.member(3, 1, 0, 3, 0);
        has(x, 3, 8, 2, 8, 3);
        x.type(0, -1, 0, 3, 4);
        x.type(0, -1, 0, 3, 4);
        x.parent(5, 4);
        x.face(5, 1);
        x.member(4, 1, 0, 3, 4);
        has(x, 5, 8, 0);
    }

    private static void rivalOnesOfInterfaces() {
        AccessJudge x = new AccessJudge();
        x.type(0, -1, 1, 3, 0);
        x.type(0, -1, 1, 3, 0);
        x.type(0, -1, 1, 3, 0);
        x.face(3, 1);
        x.face(3, 2);
        x.member(1, 1, 0, 3, 0);
        x.member(2, 1, 0, 3, 0);
        x.member(1, 1, 1, 3, 4);
        x.member(2, 1, 1, 3, 4);
        has(x, 3, 8, 0, 8, 1);
        x.face(2, 1);
        has(x, 3);
    }

    private static void ordered() {
        AccessJudge x = new AccessJudge();
        x.pack(0);
        x.type(0, -1, 0, 1, 2);
        x.type(0, -1, 1, 1, 0);
        x.type(0, -1, 1, 1, 0);
        x.type(1, -1, 0, 3, 0);
        x.face(4, 3);
        x.face(4, 2);
        x.parent(4, 1);
        x.member(4, 1, 5, 0, 1);
        x.member(1, 1, 5, 3, 2);
        x.member(4, 1, 3, 0, 1);
        x.member(1, 1, 3, 3, 2);
        x.member(2, 1, 9, 3, 4);
        x.member(3, 1, 9, 3, 0);
        x.member(2, 1, 0, 3, 0);
        x.member(3, 1, 0, 3, 4);
        has(x, 4, 1, 1, 2, 2, 2, 3, 3, 1, 4, 0, 4, 2, 5, 0, 5, 2, 6, 0, 6, 2,
                7, 4, 7, 7, 8, 5, 8, 6);
    }

    // As many FAULTS as one TYPE can have of 4 to 6, and FACES whose METHODS are all rivals.
    private static void many() {
        AccessJudge x = new AccessJudge();
        x.type(0, -1, 0, 3, 2);
        x.type(0, -1, 0, 3, 0);
        x.parent(2, 1);
        for (int name = 0; name < 10; name++) {
            x.member(1, 1, name, 3, 3);
            x.member(2, 1, name, 0, 0);
        }
        due.is("check: many", x.check(2), 31);
        due.is("fault: the last of many", x.fault(2, 30, 1), 19);
        for (int t = 3; t <= 6; t++) {
            x.type(0, -1, 1, 3, 0);
        }
        x.type(0, -1, 1, 3, 0);
        for (int t = 3; t <= 6; t++) {
            x.face(7, t);
            for (int name = 0; name < 10; name++) {
                x.member(t, 1, name, 3, 0);
            }
        }
        due.is("check: all are rivals", x.check(7), 40);
        due.is("fault: the last rival", x.fault(7, 39, 1), 59);
    }
}
