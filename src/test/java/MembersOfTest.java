/** Promise 14: what is a MEMBER OF which TYPE. */
public final class MembersOfTest {
    private static final Due due = new Due("MembersOfTest");

    public static void main(String[] args) {
        fromTheParent();
        packageOnesThroughPackages();
        fromFaces();
        concreteOneOfTheParentWins();
        abstractOneOfTheParentDoesNot();
        staticOneOfTheParentWins();
        lowerDeclarerWins();
        lowerDeclarerThatIsNotInherited();
        higherOneOfTheParentStays();
        ownOneForAll();
        fieldsOfSeveral();
        laterChanges();
        due.end();
    }

    private static void fromTheParent() {
        AccessJudge x = new AccessJudge();
        x.pack(0);
        x.type(0, -1, 0, 3, 0);
        x.type(0, -1, 0, 3, 0);
        x.type(1, -1, 0, 3, 0);
        x.parent(2, 1);
        x.parent(3, 1);
        for (int access = 0; access < 4; access++) {
            x.member(1, 0, access, access, 0);
        }
        for (int access = 0; access < 4; access++) {
            x.member(1, 1, access, access, 1);
        }
        x.member(1, 2, 0, 3, 0);
        int[] near = {0, 1, 1, 1, 0, 1, 1, 1, 0};
        int[] far = {0, 0, 1, 1, 0, 0, 1, 1, 0};
        for (int m = 0; m < 9; m++) {
            due.is("of: declared", x.of(1, m), 1);
            due.is("of: one package, " + m, x.of(2, m), near[m]);
            due.is("of: another package, " + m, x.of(3, m), far[m]);
            due.is("of: not of the one above, " + m, x.of(0, m), 0);
        }
    }

    private static void packageOnesThroughPackages() {
        AccessJudge x = new AccessJudge();
        x.pack(0);
        x.type(0, -1, 0, 3, 0);
        x.type(1, -1, 0, 3, 0);
        x.type(0, -1, 0, 3, 0);
        x.parent(2, 1);
        x.parent(3, 2);
        x.member(1, 1, 0, 1, 0);
        due.is("of: lost on the way", x.of(3, 0), 0);
    }

    private static void fromFaces() {
        AccessJudge x = new AccessJudge();
        x.type(0, -1, 1, 3, 0);
        x.type(0, -1, 0, 3, 0);
        x.type(0, -1, 1, 3, 0);
        x.face(2, 1);
        x.face(3, 1);
        x.member(1, 0, 0, 3, 1);
        x.member(1, 1, 0, 3, 0);
        x.member(1, 1, 1, 3, 4);
        x.member(1, 1, 2, 3, 1);
        x.member(1, 1, 3, 0, 0);
        int[] wanted = {1, 1, 1, 0, 0};
        for (int m = 0; m < 5; m++) {
            due.is("of: a class from a face, " + m, x.of(2, m), wanted[m]);
            due.is("of: an interface from a face, " + m, x.of(3, m), wanted[m]);
        }
        x.type(0, -1, 0, 3, 0);
        x.parent(4, 2);
        for (int m = 0; m < 5; m++) {
            due.is("of: through the parent, " + m, x.of(4, m), wanted[m]);
        }
    }

    private static void concreteOneOfTheParentWins() {
        AccessJudge x = new AccessJudge();
        x.pack(0);
        x.type(0, -1, 0, 3, 0);
        x.type(0, -1, 0, 3, 0);
        x.type(0, -1, 1, 3, 0);
        x.type(1, -1, 0, 3, 0);
        x.parent(2, 1);
        x.parent(4, 1);
        x.face(2, 3);
        x.face(4, 3);
        x.member(1, 1, 0, 1, 0);
        x.member(3, 1, 0, 3, 0);
        x.member(3, 1, 1, 3, 0);
        due.is("of: the parent's", x.of(2, 0), 1);
        due.is("of: not the face's", x.of(2, 1), 0);
        due.is("of: the face's of another name", x.of(2, 2), 1);
        due.is("of: not inherited from the parent", x.of(4, 0), 0);
        due.is("of: so the face's", x.of(4, 1), 1);
    }

    private static void abstractOneOfTheParentDoesNot() {
        AccessJudge x = new AccessJudge();
        x.type(0, -1, 0, 3, 4);
        x.type(0, -1, 0, 3, 4);
        x.type(0, -1, 1, 3, 0);
        x.parent(2, 1);
        x.face(2, 3);
        x.member(1, 1, 0, 3, 4);
        x.member(3, 1, 0, 3, 0);
        due.is("of: the parent's abstract one", x.of(2, 0), 1);
        due.is("of: the face's too", x.of(2, 1), 1);
        due.is("of: both count", x.about(2, 5), 2);
    }

    private static void staticOneOfTheParentWins() {
        AccessJudge x = new AccessJudge();
        x.type(0, -1, 0, 3, 0);
        x.type(0, -1, 1, 3, 0);
        x.face(1, 2);
        x.member(0, 1, 0, 3, 1);
        x.member(2, 1, 0, 3, 4);
        due.is("of: the parent's static one", x.of(1, 0), 1);
        due.is("of: not the face's", x.of(1, 1), 0);
    }

    private static void lowerDeclarerWins() {
        AccessJudge x = new AccessJudge();
        for (int t = 1; t <= 3; t++) {
            x.type(0, -1, 1, 3, 0);
        }
        x.type(0, -1, 0, 3, 4);
        x.face(2, 1);
        x.face(4, 1);
        x.face(4, 2);
        x.face(4, 3);
        x.member(1, 1, 0, 3, 0);
        due.is("of: alone", x.of(4, 0), 1);
        x.member(2, 1, 0, 3, 4);
        due.is("of: one below it is there", x.of(4, 0), 0);
        due.is("of: that one", x.of(4, 1), 1);
        x.member(3, 1, 0, 3, 4);
        due.is("of: one that is beside it", x.of(4, 2), 1);
        due.is("of: does not harm", x.of(4, 1), 1);
        x.member(1, 1, 1, 3, 0);
        x.member(2, 1, 1, 3, 1);
        due.is("of: a static one below does not count", x.of(4, 3), 1);
        x.member(1, 1, 2, 3, 0);
        x.member(2, 1, 2, 0, 0);
        due.is("of: a private one below does not count", x.of(4, 5), 1);
        x.member(1, 0, 0, 3, 1);
        x.member(2, 0, 0, 3, 1);
        due.is("of: fields are all there, above", x.of(4, 7), 1);
        due.is("of: fields are all there, below", x.of(4, 8), 1);
    }

    // A class of another package whose package METHOD is BELOW the INTERFACE's by its DECLARER.
    private static void lowerDeclarerThatIsNotInherited() {
        AccessJudge x = new AccessJudge();
        x.pack(0);
        x.type(0, -1, 1, 3, 0);
        x.type(1, -1, 0, 3, 4);
        x.type(0, -1, 0, 3, 4);
        x.face(2, 1);
        x.parent(3, 2);
        x.face(3, 1);
        x.member(1, 1, 0, 3, 4);
        x.member(2, 1, 0, 1, 4);
        due.is("of: a package one of another package", x.of(3, 1), 0);
        due.is("of: yet it is a member of the parent", x.of(3, 0), 0);
    }

    // The last clause is told of FACES alone.
    private static void higherOneOfTheParentStays() {
        AccessJudge x = new AccessJudge();
        x.type(0, -1, 1, 3, 0);
        x.type(0, -1, 1, 3, 0);
        x.type(0, -1, 0, 3, 4);
        x.type(0, -1, 0, 3, 4);
        x.face(2, 1);
        x.face(3, 1);
        x.parent(4, 3);
        x.face(4, 2);
        x.member(1, 1, 0, 3, 0);
        x.member(2, 1, 0, 3, 0);
        due.is("of: from the parent", x.of(4, 0), 1);
        due.is("of: from the face", x.of(4, 1), 1);
    }

    private static void ownOneForAll() {
        AccessJudge x = new AccessJudge();
        x.type(0, -1, 0, 3, 0);
        x.type(0, -1, 0, 3, 0);
        x.type(0, -1, 1, 3, 0);
        x.parent(2, 1);
        x.face(2, 3);
        x.member(1, 1, 0, 3, 0);
        x.member(3, 1, 0, 3, 0);
        x.member(2, 1, 0, 0, 1);
        x.member(1, 0, 0, 3, 0);
        due.is("of: not the parent's", x.of(2, 0), 0);
        due.is("of: not the face's", x.of(2, 1), 0);
        due.is("of: its own, private and static", x.of(2, 2), 1);
        due.is("of: a field of the name", x.of(2, 3), 1);
        x.member(2, 2, 1, 3, 0);
        x.member(1, 1, 1, 3, 0);
        due.is("of: a maker of the name hides nothing", x.of(2, 5), 1);
    }

    private static void fieldsOfSeveral() {
        AccessJudge x = new AccessJudge();
        x.type(0, -1, 0, 3, 0);
        x.type(0, -1, 0, 3, 0);
        x.type(0, -1, 1, 3, 0);
        x.parent(2, 1);
        x.face(2, 3);
        x.member(1, 0, 0, 3, 0);
        x.member(3, 0, 0, 3, 1);
        due.is("of: the parent's field", x.of(2, 0), 1);
        due.is("of: the face's field", x.of(2, 1), 1);
        due.is("of: both count", x.about(2, 5), 2);
        x.face(1, 3);
        x.member(3, 0, 1, 3, 1);
        due.is("of: a field by two ways is one", x.about(2, 5), 3);
    }

    private static void laterChanges() {
        AccessJudge x = new AccessJudge();
        x.type(0, -1, 0, 3, 0);
        x.type(0, -1, 0, 3, 0);
        x.type(0, -1, 1, 3, 0);
        x.member(2, 1, 0, 3, 0);
        due.is("of: before", x.of(1, 0), 0);
        x.parent(1, 2);
        due.is("of: after a parent", x.of(1, 0), 1);
        x.member(3, 0, 0, 3, 1);
        due.is("of: before a face", x.of(1, 1), 0);
        x.face(2, 3);
        due.is("of: after the parent's face", x.of(1, 1), 1);
        x.member(1, 0, 0, 0, 0);
        due.is("of: after one of its own", x.of(1, 1), 0);
        x.type(0, -1, 0, 3, 0);
        x.member(0, 0, 5, 3, 0);
        due.is("of: a later type, a later member of the root", x.of(4, 3), 1);
    }
}
