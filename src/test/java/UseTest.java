/** Promises 15 and 16: which MEMBER a use means, which MAKER, and why none. */
public final class UseTest {
    private static final Due due = new Due("UseTest");

    public static void main(String[] args) {
        useOfWhatIsNotOpenOrThere();
        useByAccess();
        useOfProtectedByObject();
        useOfProtectedOtherwise();
        useOfProtectedFromWithin();
        useByTypeName();
        useByNameAlone();
        useByNameAloneThroughStatic();
        useBySuper();
        useOfSeveralFields();
        useOfSeveralMethods();
        makeByAccess();
        makeOfAbstractAndFinal();
        makeBySuper();
        due.end();
    }

    // Promise 15
    private static void useOfWhatIsNotOpenOrThere() {
        AccessJudge x = new AccessJudge();
        x.pack(0);
        x.type(0, -1, 0, 1, 0);
        x.type(1, -1, 0, 3, 0);
        x.type(1, -1, 1, 3, 0);
        x.member(1, 0, 0, 3, 1);
        due.is("use: by an object of one that is not open", x.use(2, 0, 1, 0, 0), -11);
        due.is("use: by the name of one that is not open", x.use(2, 1, 1, 0, 0), -11);
        due.is("use: not open ahead of not there", x.use(2, 1, 1, 0, 1), -11);
        due.is("use: not there", x.use(1, 0, 1, 0, 1), -12);
        due.is("use: no method", x.use(1, 0, 1, 1, 0), -12);
        due.is("use: not there by the name alone", x.use(2, 2, 0, 0, 0), -12);
        due.is("use: not there by super", x.use(2, 3, 0, 0, 0), -12);
        due.is("use: the root has no parent", x.use(0, 3, 0, 0, 0), -11);
        due.is("use: an interface has no parent", x.use(3, 3, 0, 0, 0), -11);
        x.parent(2, 1);
        due.is("use: by super the parent need not be open", x.use(2, 3, 0, 0, 0), 0);
        due.is("use: by the name alone nothing need be open", x.use(2, 2, 0, 0, 0), 0);
        due.is("use: through one below that is open", x.use(3, 1, 2, 0, 0), 0);
    }

    private static void useByAccess() {
        AccessJudge x = new AccessJudge();
        x.pack(0);
        x.type(0, -1, 0, 3, 0);
        x.type(0, 1, 0, 3, 0);
        x.type(0, -1, 0, 3, 0);
        x.type(1, -1, 0, 3, 0);
        for (int access = 0; access < 4; access++) {
            x.member(2, 1, access, access, 0);
        }
        for (int access = 0; access < 4; access++) {
            due.is("use: same top, " + access, x.use(1, 0, 2, 1, access), access);
            due.is("use: same package, " + access, x.use(3, 0, 2, 1, access),
                    access == 0 ? -13 : access);
            due.is("use: elsewhere, " + access, x.use(4, 0, 2, 1, access),
                    access < 3 ? -13 : access);
        }
    }

    private static void useOfProtectedByObject() {
        AccessJudge x = new AccessJudge();
        x.pack(0);
        x.type(0, -1, 0, 3, 0);
        x.type(1, -1, 0, 3, 0);
        x.type(1, -1, 0, 3, 0);
        x.type(1, -1, 0, 3, 0);
        x.parent(2, 1);
        x.parent(3, 2);
        x.parent(4, 1);
        x.member(1, 0, 0, 2, 0);
        x.member(1, 0, 1, 2, 1);
        due.is("use: by an object of the code's type", x.use(2, 0, 2, 0, 0), 0);
        due.is("use: by an object of one below", x.use(2, 0, 3, 0, 0), 0);
        due.is("use: by an object of one above", x.use(2, 0, 1, 0, 0), -13);
        due.is("use: by an object of one between", x.use(3, 0, 2, 0, 0), -13);
        due.is("use: by an object of one beside", x.use(2, 0, 4, 0, 0), -13);
        due.is("use: a static one by any object", x.use(2, 0, 4, 0, 1), 1);
        due.is("use: a static one by an object above", x.use(2, 0, 1, 0, 1), 1);
        x.type(1, -1, 0, 3, 0);
        due.is("use: a static one from no heir", x.use(5, 0, 2, 0, 1), -13);
    }

    private static void useOfProtectedOtherwise() {
        AccessJudge x = new AccessJudge();
        x.pack(0);
        x.type(0, -1, 0, 3, 0);
        x.type(1, -1, 0, 3, 0);
        x.type(1, -1, 0, 3, 0);
        x.parent(2, 1);
        x.member(1, 1, 0, 2, 0);
        due.is("use: by super", x.use(2, 3, 0, 1, 0), 0);
        due.is("use: by the name alone", x.use(2, 2, 0, 1, 0), 0);
        due.is("use: by a type's name it is open but not static", x.use(2, 1, 1, 1, 0), -15);
        due.is("use: by a type's name from no heir", x.use(3, 1, 1, 1, 0), -13);
    }

    private static void useOfProtectedFromWithin() {
        AccessJudge x = new AccessJudge();
        x.pack(0);
        x.type(0, -1, 0, 3, 0);
        x.type(1, -1, 0, 3, 0);
        x.type(1, 2, 0, 3, 0);
        x.type(1, 3, 0, 3, 0);
        x.type(1, -1, 0, 3, 0);
        x.parent(2, 1);
        x.parent(5, 2);
        x.member(1, 0, 0, 2, 0);
        due.is("use: the heir is around the code", x.use(4, 0, 2, 0, 0), 0);
        due.is("use: an object below that heir", x.use(4, 0, 5, 0, 0), 0);
        due.is("use: an object above that heir", x.use(4, 0, 1, 0, 0), -13);
        x.parent(3, 1);
        due.is("use: either heir will do", x.use(4, 0, 5, 0, 0), 0);
        due.is("use: the nearer one, too", x.use(4, 0, 3, 0, 0), 0);
        due.is("use: not from outside of it", x.use(2, 0, 3, 0, 0), -13);
        x.type(0, 1, 0, 3, 0);
        x.type(0, 1, 0, 3, 0);
        due.is("use: in the declarer's package any object", x.use(7, 0, 1, 0, 0), 0);
    }

    private static void useByTypeName() {
        AccessJudge x = new AccessJudge();
        x.type(0, -1, 0, 3, 0);
        x.type(0, -1, 1, 3, 0);
        x.member(1, 1, 0, 3, 1);
        x.member(1, 1, 1, 3, 0);
        x.member(2, 1, 0, 3, 1);
        x.member(2, 1, 1, 3, 4);
        due.is("use: static by name", x.use(0, 1, 1, 1, 0), 0);
        due.is("use: not static by name", x.use(0, 1, 1, 1, 1), -15);
        due.is("use: an interface's static one", x.use(0, 1, 2, 1, 0), 2);
        due.is("use: an interface's abstract one by name", x.use(0, 1, 2, 1, 1), -15);
        due.is("use: an abstract one by an object", x.use(0, 0, 2, 1, 1), 3);
        due.is("use: a static one by an object", x.use(0, 0, 1, 1, 0), 0);
    }

    private static void useByNameAlone() {
        AccessJudge x = new AccessJudge();
        x.type(0, -1, 0, 3, 0);
        x.type(0, 1, 0, 3, 0);
        x.type(0, 2, 0, 3, 0);
        x.member(1, 0, 0, 0, 0);
        due.is("use: two outwards", x.use(3, 2, 0, 0, 0), 0);
        x.member(2, 0, 0, 0, 0);
        due.is("use: one outwards", x.use(3, 2, 0, 0, 0), 1);
        x.member(2, 1, 1, 3, 0);
        x.type(0, -1, 0, 3, 0);
        x.member(4, 0, 0, 3, 0);
        x.parent(3, 4);
        due.is("use: inherited is nearer than outwards", x.use(3, 2, 0, 0, 0), 3);
        due.is("use: not inwards", x.use(1, 2, 0, 1, 1), -12);
        x.pack(0);
        x.type(1, -1, 0, 3, 0);
        x.type(1, 5, 0, 3, 0);
        x.type(1, -1, 0, 3, 0);
        x.type(1, 7, 0, 3, 0);
        x.member(7, 0, 3, 0, 0);
        x.parent(6, 7);
        x.member(5, 0, 3, 3, 0);
        due.is("use: a private one of the parent is not of it", x.use(6, 2, 0, 0, 3), 5);
        x.type(0, 0, 0, 3, 0);
        x.member(0, 0, 4, 0, 0);
        due.is("use: outwards to the root", x.use(9, 2, 0, 0, 4), 6);
    }

    private static void useByNameAloneThroughStatic() {
        AccessJudge x = new AccessJudge();
        x.type(0, -1, 0, 3, 0);
        x.type(0, 1, 0, 3, 1);
        x.type(0, 2, 0, 3, 0);
        x.type(0, 3, 0, 3, 1);
        x.member(1, 1, 0, 3, 0);
        x.member(1, 1, 1, 3, 1);
        x.member(2, 1, 2, 3, 0);
        x.member(4, 1, 3, 3, 0);
        due.is("use: from the one itself", x.use(1, 2, 0, 1, 0), 0);
        due.is("use: through a static one", x.use(2, 2, 0, 1, 0), -15);
        due.is("use: through a static one further out", x.use(3, 2, 0, 1, 0), -15);
        due.is("use: static through a static one", x.use(4, 2, 0, 1, 1), 1);
        due.is("use: q itself may be static", x.use(3, 2, 0, 1, 2), 2);
        due.is("use: f is static, and ahead of q", x.use(4, 2, 0, 1, 2), -15);
        due.is("use: f is static, and is q", x.use(4, 2, 0, 1, 3), 3);
    }

    private static void useBySuper() {
        AccessJudge x = new AccessJudge();
        x.pack(0);
        x.type(0, -1, 0, 3, 4);
        x.type(1, -1, 0, 3, 4);
        x.parent(2, 1);
        x.member(1, 1, 0, 3, 4);
        x.member(1, 1, 1, 1, 0);
        x.member(1, 1, 2, 2, 1);
        x.member(2, 1, 2, 3, 1);
        due.is("use: an abstract one by super", x.use(2, 3, 0, 1, 0), -16);
        due.is("use: an abstract one by the name alone", x.use(2, 2, 0, 1, 0), 0);
        due.is("use: a package one by super from elsewhere", x.use(2, 3, 0, 1, 1), -13);
        due.is("use: the parent's, not its own", x.use(2, 3, 0, 1, 2), 2);
        due.is("use: the root's by super", x.use(1, 3, 0, 1, 0), -12);
    }

    private static void useOfSeveralFields() {
        AccessJudge x = new AccessJudge();
        x.pack(0);
        x.type(0, -1, 0, 3, 0);
        x.type(0, -1, 0, 3, 0);
        x.type(0, -1, 1, 3, 0);
        x.type(1, -1, 0, 3, 0);
        x.parent(2, 1);
        x.face(2, 3);
        x.member(1, 0, 0, 1, 0);
        x.member(3, 0, 0, 3, 1);
        due.is("use: both are open", x.use(2, 0, 2, 0, 0), -14);
        due.is("use: both are open, by name", x.use(2, 1, 2, 0, 0), -14);
        due.is("use: both are open, by the name alone", x.use(2, 2, 0, 0, 0), -14);
        due.is("use: only one is open", x.use(4, 0, 2, 0, 0), 1);
        due.is("use: only one is open, by name", x.use(4, 1, 2, 0, 0), 1);
    }

    private static void useOfSeveralMethods() {
        AccessJudge x = new AccessJudge();
        x.pack(0);
        x.type(0, -1, 1, 3, 0);
        x.type(0, -1, 1, 3, 0);
        x.type(0, -1, 0, 3, 4);
        x.type(0, -1, 0, 3, 4);
        x.type(1, -1, 0, 3, 0);
        x.face(4, 1);
        x.face(4, 2);
        x.parent(4, 3);
        x.member(2, 1, 0, 3, 0);
        x.member(1, 1, 0, 3, 0);
        due.is("use: the least number", x.use(5, 0, 4, 1, 0), 0);
        x.member(3, 1, 0, 1, 4);
        due.is("use: a class's", x.use(4, 0, 4, 1, 0), 2);
        due.is("use: a class's that is not open", x.use(5, 0, 4, 1, 0), 0);
    }

    // Promise 16
    private static void makeByAccess() {
        AccessJudge x = new AccessJudge();
        x.pack(0);
        x.type(0, -1, 0, 3, 0);
        x.type(0, 1, 0, 3, 0);
        x.type(0, -1, 0, 3, 0);
        x.type(1, -1, 0, 3, 0);
        x.type(0, -1, 0, 1, 0);
        for (int access = 0; access < 4; access++) {
            x.member(1, 2, access, access, 0);
        }
        for (int how = 0; how < 2; how++) {
            for (int access = 0; access < 4; access++) {
                due.is("make: same top", x.make(2, how, 1, access), access);
                due.is("make: same package", x.make(3, how, 1, access), access == 0 ? -13 : access);
            }
            due.is("make: private, elsewhere", x.make(4, how, 1, 0), -13);
            due.is("make: package, elsewhere", x.make(4, how, 1, 1), -13);
            due.is("make: public, elsewhere", x.make(4, how, 1, 3), 3);
            due.is("make: no such maker", x.make(4, how, 1, 4), -12);
            due.is("make: not open", x.make(4, how, 5, 0), -11);
        }
        due.is("make: protected by new", x.make(4, 0, 1, 2), -13);
        due.is("make: protected with a body", x.make(4, 1, 1, 2), 2);
        x.parent(4, 1);
        due.is("make: protected by new, from below", x.make(4, 0, 1, 2), -13);
        due.is("make: makers are not inherited", x.make(4, 0, 4, 3), -12);
    }

    private static void makeOfAbstractAndFinal() {
        AccessJudge x = new AccessJudge();
        x.pack(0);
        x.type(0, -1, 0, 3, 4);
        x.type(0, -1, 0, 3, 2);
        x.type(0, -1, 1, 3, 0);
        x.type(1, -1, 0, 3, 0);
        x.member(1, 2, 0, 1, 0);
        x.member(2, 2, 0, 1, 0);
        x.member(1, 1, 1, 3, 0);
        due.is("make: abstract by new", x.make(0, 0, 1, 0), -15);
        due.is("make: abstract with a body", x.make(0, 1, 1, 0), 0);
        due.is("make: final by new", x.make(0, 0, 2, 0), 1);
        due.is("make: final with a body", x.make(0, 1, 2, 0), -16);
        due.is("make: not to be used, ahead of abstract", x.make(4, 0, 1, 0), -13);
        due.is("make: not to be used, ahead of final", x.make(4, 1, 2, 0), -13);
        due.is("make: not there, ahead of abstract", x.make(0, 0, 1, 1), -12);
        due.is("make: an interface has none", x.make(0, 1, 3, 0), -12);
    }

    private static void makeBySuper() {
        AccessJudge x = new AccessJudge();
        x.pack(0);
        x.type(0, -1, 0, 1, 4);
        x.type(1, -1, 0, 3, 0);
        x.type(0, -1, 1, 3, 0);
        x.type(0, 1, 0, 3, 2);
        x.type(0, 1, 0, 3, 0);
        x.parent(2, 1);
        x.parent(5, 4);
        for (int access = 0; access < 4; access++) {
            x.member(1, 2, access, access, 0);
        }
        x.member(4, 2, 0, 0, 0);
        due.is("make: super, private", x.make(2, 2, 0, 0), -13);
        due.is("make: super, package", x.make(2, 2, 0, 1), -13);
        due.is("make: super, protected, of one not open", x.make(2, 2, 0, 2), 2);
        due.is("make: super, public, of an abstract one", x.make(2, 2, 0, 3), 3);
        due.is("make: super, private, same top, of a final one", x.make(5, 2, 0, 0), 4);
        due.is("make: super, no such maker", x.make(2, 2, 0, 9), -12);
        due.is("make: super of the root", x.make(0, 2, 0, 0), -11);
        due.is("make: super of an interface", x.make(3, 2, 0, 0), -11);
    }
}
