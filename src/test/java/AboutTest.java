/** Promise 11: what is told of a TYPE, after it came and after later changes. */
public final class AboutTest {
    private static final int NONE = AccessJudge.NONE;
    private static final Due due = new Due("AboutTest");

    public static void main(String[] args) {
        about();
        aboutMembers();
        due.end();
    }

    private static void about() {
        AccessJudge x = new AccessJudge();
        x.pack(0);
        x.type(1, -1, 0, 3, 0);
        x.type(1, 1, 0, 0, 0);
        x.type(1, 2, 1, 0, 1);
        x.type(0, -1, 1, 3, 0);
        x.parent(2, 1);
        x.face(2, 3);
        x.face(2, 4);
        x.face(3, 4);
        due.is("about: package", x.about(3, 0), 1);
        due.is("about: package 0", x.about(4, 0), 0);
        due.is("about: outer", x.about(3, 1), 2);
        due.is("about: no outer", x.about(1, 1), NONE);
        due.is("about: top", x.about(3, 2), 1);
        due.is("about: own top", x.about(4, 2), 4);
        due.is("about: parent", x.about(2, 3), 1);
        due.is("about: parent is the root", x.about(1, 3), 0);
        due.is("about: an interface's parent", x.about(3, 3), NONE);
        due.is("about: faces", x.about(2, 4), 2);
        due.is("about: no faces", x.about(1, 4), 0);
        due.is("about: below the root, no interfaces", x.about(0, 6), 2);
        due.is("about: below 4", x.about(4, 6), 2);
        due.is("about: below 2", x.about(2, 6), 0);
    }

    private static void aboutMembers() {
        AccessJudge x = new AccessJudge();
        x.type(0, -1, 0, 3, 0);
        x.member(0, 1, 0, 3, 0);
        x.member(0, 2, 0, 3, 0);
        x.member(0, 0, 0, 0, 0);
        due.is("about: a declared maker and a private field count", x.about(0, 5), 3);
        due.is("about: neither is inherited", x.about(1, 5), 1);
        x.member(1, 1, 0, 3, 0);
        due.is("about: one's own for the inherited one", x.about(1, 5), 1);
        x.type(0, -1, 0, 3, 0);
        due.is("about: a type that came later", x.about(2, 5), 1);
        x.parent(2, 1);
        due.is("about: after a parent was told", x.about(2, 5), 1);
        due.is("about: it is the parent's", x.of(2, 3), 1);
    }
}
