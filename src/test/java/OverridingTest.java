/** Promises 17 and 18: what OVERRIDES what, and what is CHOSEN for an object. */
public final class OverridingTest {
    private static final int NONE = AccessJudge.NONE, TWO = AccessJudge.TWO;
    private static final Due due = new Due("OverridingTest");

    public static void main(String[] args) {
        overridesByAccess();
        overridesOfInterfaces();
        overridesThroughPackages();
        overridesThroughSteps();
        choosePrivateAndStatic();
        chooseInClasses();
        chooseInClassesForInterfaces();
        chooseInInterfaces();
        chooseAfterChanges();
        due.end();
    }

    // Promise 17
    private static void overridesByAccess() {
        AccessJudge x = new AccessJudge();
        x.pack(0);
        x.type(0, -1, 0, 3, 0);
        x.type(0, -1, 0, 3, 0);
        x.type(1, -1, 0, 3, 0);
        x.parent(2, 1);
        x.parent(3, 1);
        for (int t = 1; t <= 3; t++) {
            for (int access = 0; access < 4; access++) {
                x.member(t, 1, access, t == 1 ? access : 3, 0);
            }
        }
        int[] near = {0, 1, 1, 1};
        int[] far = {0, 0, 1, 1};
        for (int access = 0; access < 4; access++) {
            due.is("overrides: same package, " + access, x.overrides(4 + access, access),
                    near[access]);
            due.is("overrides: another package, " + access, x.overrides(8 + access, access),
                    far[access]);
            due.is("overrides: beside", x.overrides(8 + access, 4 + access), 0);
        }
        due.is("overrides: another name", x.overrides(7, 2), 0);
        x.member(1, 1, 4, 3, 1);
        x.member(2, 1, 4, 3, 0);
        x.member(1, 1, 5, 3, 0);
        x.member(2, 1, 5, 3, 1);
        x.member(1, 1, 6, 3, 0);
        x.member(2, 1, 6, 0, 0);
        due.is("overrides: a static one", x.overrides(13, 12), 0);
        due.is("overrides: by a static one", x.overrides(15, 14), 0);
        due.is("overrides: by a private one", x.overrides(17, 16), 0);
        x.member(1, 1, 7, 3, 2);
        x.member(2, 1, 7, 1, 0);
        due.is("overrides: a final one, with less access", x.overrides(19, 18), 1);
    }

    private static void overridesOfInterfaces() {
        AccessJudge x = new AccessJudge();
        x.type(0, -1, 1, 3, 0);
        x.type(0, -1, 1, 3, 0);
        x.type(0, -1, 0, 3, 0);
        x.type(0, -1, 0, 3, 0);
        x.face(2, 1);
        x.face(3, 2);
        x.member(1, 1, 0, 3, 4);
        x.member(2, 1, 0, 3, 0);
        x.member(3, 1, 0, 1, 0);
        x.member(4, 1, 0, 3, 0);
        due.is("overrides: an interface's", x.overrides(1, 0), 1);
        due.is("overrides: from a class", x.overrides(2, 0), 1);
        due.is("overrides: not below", x.overrides(3, 0), 0);
        x.parent(4, 3);
        due.is("overrides: below by now", x.overrides(3, 0), 1);
    }

    private static void overridesThroughPackages() {
        AccessJudge x = new AccessJudge();
        x.pack(0);
        x.type(0, -1, 0, 3, 0);
        x.type(1, -1, 0, 3, 0);
        x.type(0, -1, 0, 3, 0);
        x.parent(2, 1);
        x.parent(3, 2);
        x.member(1, 1, 0, 1, 0);
        x.member(2, 1, 0, 1, 0);
        x.member(3, 1, 0, 1, 0);
        due.is("overrides: the package is not one", x.overrides(1, 0), 0);
        due.is("overrides: nor here", x.overrides(2, 1), 0);
        due.is("overrides: over one that does not", x.overrides(2, 0), 1);
    }

    // a (package 0), b (package 0, public), d (package 1): d overrides b, and b a.
    private static void overridesThroughSteps() {
        AccessJudge x = new AccessJudge();
        x.pack(0);
        for (int t = 1; t <= 5; t++) {
            x.type(t == 3 || t == 5 ? 1 : 0, -1, 0, 3, 0);
        }
        x.parent(2, 1);
        x.parent(3, 2);
        x.parent(4, 3);
        x.parent(5, 4);
        x.member(1, 1, 0, 1, 0);
        x.member(3, 1, 0, 3, 0);
        due.is("overrides: no step between", x.overrides(1, 0), 0);
        x.member(2, 1, 0, 3, 0);
        due.is("overrides: a step between", x.overrides(1, 0), 1);
        x.member(5, 1, 0, 3, 0);
        due.is("overrides: two steps between", x.overrides(3, 0), 1);
        due.is("overrides: each on the way, too", x.overrides(3, 1), 1);
        due.is("overrides: and the one before it", x.overrides(3, 2), 1);
        due.is("overrides: as that one does", x.overrides(1, 2), 1);
        AccessJudge y = new AccessJudge();
        y.pack(0);
        y.pack(0);
        for (int t = 1; t <= 4; t++) {
            y.type(t == 1 || t == 2 ? 0 : t - 2, -1, 0, 3, 0);
        }
        y.parent(2, 1);
        y.parent(3, 2);
        y.parent(4, 3);
        y.member(1, 1, 0, 1, 0);
        y.member(2, 1, 0, 1, 0);
        y.member(3, 1, 0, 3, 0);
        y.member(4, 1, 0, 3, 0);
        due.is("overrides: a step that is not overridden", y.overrides(2, 0), 0);
        due.is("overrides: a step that overrides nothing", y.overrides(3, 0), 0);
        due.is("overrides: the near one, though", y.overrides(3, 2), 1);
    }

    // Promise 18
    private static void choosePrivateAndStatic() {
        AccessJudge x = new AccessJudge();
        x.type(0, -1, 0, 3, 0);
        x.type(0, -1, 0, 3, 0);
        x.type(0, -1, 1, 3, 0);
        x.parent(2, 1);
        x.face(2, 3);
        x.member(1, 1, 0, 0, 0);
        x.member(2, 1, 0, 3, 0);
        x.member(1, 1, 1, 3, 1);
        x.member(2, 1, 1, 3, 1);
        x.member(3, 1, 0, 3, 1);
        x.member(3, 1, 1, 0, 0);
        due.is("choose: private", x.choose(0, 2), 0);
        due.is("choose: static", x.choose(2, 2), 2);
        due.is("choose: an interface's static one", x.choose(4, 2), 4);
        due.is("choose: an interface's private one", x.choose(5, 2), 5);
    }

    private static void chooseInClasses() {
        AccessJudge x = new AccessJudge();
        x.pack(0);
        x.type(0, -1, 0, 3, 0);
        x.type(1, -1, 0, 3, 0);
        x.type(0, -1, 0, 3, 0);
        x.parent(2, 1);
        x.parent(3, 2);
        x.member(1, 1, 0, 1, 0);
        x.member(2, 1, 0, 1, 0);
        due.is("choose: the declarer itself", x.choose(0, 1), 0);
        due.is("choose: one that does not override", x.choose(0, 2), 0);
        due.is("choose: inherited on", x.choose(0, 3), 0);
        x.member(3, 1, 0, 3, 0);
        due.is("choose: one that does", x.choose(0, 3), 2);
        due.is("choose: one that does not override this", x.choose(1, 3), 1);
        x.member(1, 1, 1, 3, 0);
        x.member(2, 1, 1, 3, 0);
        due.is("choose: by the parent's parent's", x.choose(3, 3), 4);
        due.is("choose: from the object, not from the method", x.choose(3, 1), 3);
        x.member(2, 1, 2, 3, 1);
        x.member(1, 1, 2, 3, 0);
        due.is("choose: a static one is passed by", x.choose(6, 3), 6);
        x.member(0, 1, 3, 3, 0);
        x.type(0, -1, 0, 3, 4);
        x.type(0, -1, 0, 3, 0);
        x.parent(5, 4);
        x.member(4, 1, 3, 3, 4);
        due.is("choose: an abstract one may be it", x.choose(7, 5), 8);
    }

    private static void chooseInClassesForInterfaces() {
        AccessJudge x = new AccessJudge();
        x.pack(0);
        x.type(0, -1, 1, 3, 0);
        x.type(1, -1, 0, 3, 0);
        x.type(0, -1, 0, 3, 0);
        x.parent(3, 2);
        x.face(3, 1);
        x.member(1, 1, 0, 3, 0);
        x.member(2, 1, 0, 1, 0);
        due.is("choose: any class's of the name", x.choose(0, 3), 1);
        x.member(1, 1, 1, 3, 0);
        x.member(2, 1, 1, 0, 0);
        due.is("choose: but no private one", x.choose(2, 3), 2);
        x.member(1, 1, 2, 3, 0);
        x.member(2, 1, 2, 3, 1);
        due.is("choose: but no static one", x.choose(4, 3), 4);
        x.member(0, 1, 3, 3, 0);
        x.member(1, 1, 3, 3, 0);
        due.is("choose: the root's ahead of an interface's", x.choose(7, 3), 6);
    }

    private static void chooseInInterfaces() {
        AccessJudge x = new AccessJudge();
        for (int t = 1; t <= 4; t++) {
            x.type(0, -1, 1, 3, 0);
        }
        x.type(0, -1, 0, 3, 0);
        x.type(0, -1, 0, 3, 0);
        x.face(2, 1);
        x.face(3, 1);
        x.face(5, 2);
        x.face(5, 3);
        x.parent(6, 5);
        x.face(6, 4);
        x.member(1, 1, 0, 3, 4);
        due.is("choose: all are abstract", x.choose(0, 5), NONE);
        x.member(2, 1, 0, 3, 0);
        due.is("choose: the lower one", x.choose(0, 5), 1);
        x.member(3, 1, 0, 3, 4);
        due.is("choose: an abstract one beside it", x.choose(0, 5), 1);
        x.member(4, 1, 0, 3, 0);
        due.is("choose: it is not above 5", x.choose(0, 5), 1);
        due.is("choose: two for 6", x.choose(0, 6), TWO);
        due.is("choose: two, by the other one", x.choose(3, 6), TWO);
        x.member(1, 1, 1, 3, 0);
        x.member(2, 1, 1, 3, 4);
        due.is("choose: an abstract one below it", x.choose(4, 5), NONE);
        x.member(1, 1, 2, 3, 0);
        x.member(2, 1, 2, 3, 1);
        x.member(3, 1, 2, 0, 0);
        due.is("choose: static and private ones do not count", x.choose(6, 5), 6);
    }

    private static void chooseAfterChanges() {
        AccessJudge x = new AccessJudge();
        x.type(0, -1, 0, 3, 0);
        x.type(0, -1, 0, 3, 0);
        x.member(0, 1, 0, 3, 0);
        x.member(2, 1, 0, 3, 0);
        due.is("choose: before", x.choose(0, 1), 0);
        x.parent(1, 2);
        due.is("choose: after a parent", x.choose(0, 1), 1);
        x.member(1, 1, 0, 3, 0);
        due.is("choose: after a member", x.choose(0, 1), 2);
    }
}
