/** Promises 1 to 11: what there is, and what is told of it. */
public final class WhatThereIsTest {
    private static final int BAD = AccessJudge.BAD, NONE = AccessJudge.NONE;
    private static final int FULL = AccessJudge.FULL;
    private static final int[] WRONG = {-1, -2, Integer.MIN_VALUE, Integer.MAX_VALUE};
    private static final Due due = new Due("WhatThereIsTest");

    public static void main(String[] args) {
        newObject();
        module();
        reads();
        pack();
        export();
        typeWrongInputs();
        typeRules();
        typeFull();
        parent();
        face();
        memberWrongInputs();
        memberRules();
        memberFull();
        count();
        about();
        aboutMembers();
        refusedChangesNothing();
        due.end();
    }

    // Promise 1
    private static void newObject() {
        AccessJudge x = new AccessJudge();
        due.is("new: modules", x.count(0), 1);
        due.is("new: packages", x.count(1), 1);
        due.is("new: types", x.count(2), 1);
        due.is("new: members", x.count(3), 0);
        due.is("new: root's package", x.about(0, 0), 0);
        due.is("new: root's outer", x.about(0, 1), NONE);
        due.is("new: root's top", x.about(0, 2), 0);
        due.is("new: root's parent", x.about(0, 3), NONE);
        due.is("new: root's faces", x.about(0, 4), 0);
        due.is("new: root's members", x.about(0, 5), 0);
        due.is("new: below root", x.about(0, 6), 0);
        due.is("new: package 0 is exported to all", x.export(0, -1), 0);
        due.is("new: root has no faults", x.check(0), 0);
        due.is("new: root is not abstract", x.member(0, 1, 0, 3, 4), -17);
        due.is("new: root may have a maker, so is a class", x.member(0, 2, 0, 3, 0), 0);
        x.module();
        x.pack(1);
        x.type(1, -1, 0, 3, 0);
        due.is("new: root is public", x.open(1, 0), 1);
        due.is("new: root is not final", x.check(1), 0);
        AccessJudge other = new AccessJudge();
        due.is("new: objects share nothing", other.count(2), 1);
    }

    // Promise 2
    private static void module() {
        AccessJudge x = new AccessJudge();
        for (int m = 1; m <= 5; m++) {
            due.is("module", x.module(), m);
            due.is("module: reads 0 already", x.reads(m, 0), 0);
        }
        due.is("module: full", x.module(), FULL);
        due.is("module: full again", x.module(), FULL);
        due.is("module: count", x.count(0), 6);
    }

    // Promise 3
    private static void reads() {
        AccessJudge x = new AccessJudge();
        x.module();
        x.module();
        due.is("reads(1, 2)", x.reads(1, 2), 1);
        due.is("reads(1, 2) again", x.reads(1, 2), 0);
        due.is("reads(2, 1): not by itself", x.reads(2, 1), 1);
        due.is("reads(2, 2): they are one", x.reads(2, 2), 0);
        due.is("reads(0, 0): they are one", x.reads(0, 0), 0);
        due.is("reads(0, 1): 0 reads none at first", x.reads(0, 1), 1);
        due.is("reads(3, 3): no such one", x.reads(3, 3), BAD);
        for (int wrong : WRONG) {
            due.is("reads(wrong, 0)", x.reads(wrong, 0), BAD);
            due.is("reads(0, wrong)", x.reads(0, wrong), BAD);
        }
    }

    // Promise 4
    private static void pack() {
        AccessJudge x = new AccessJudge();
        due.is("pack: no such module", x.pack(1), BAD);
        x.module();
        for (int p = 1; p <= 9; p++) {
            due.is("pack", x.pack(p % 2), p);
        }
        due.is("pack: full", x.pack(0), FULL);
        due.is("pack: bad ahead of full", x.pack(2), BAD);
        for (int wrong : WRONG) {
            due.is("pack(wrong)", x.pack(wrong), BAD);
        }
        due.is("pack: count", x.count(1), 10);
        due.is("pack: a package that is new is exported to none", x.export(9, 0), 1);
        x.type(9, -1, 0, 3, 0);
        x.type(8, -1, 0, 3, 0);
        x.type(7, -1, 0, 3, 0);
        due.is("pack: modules differ", x.open(2, 1), 0);
        due.is("pack: module is one", x.open(3, 1), 1);
    }

    // Promise 5
    private static void export() {
        AccessJudge x = new AccessJudge();
        x.module();
        x.module();
        x.pack(1);
        x.pack(1);
        due.is("export(1, 2)", x.export(1, 2), 1);
        due.is("export(1, 2) again", x.export(1, 2), 0);
        due.is("export(1, 1): to its own module", x.export(1, 1), 1);
        due.is("export(1, 0)", x.export(1, 0), 1);
        due.is("export(1, 2): it still is", x.export(1, 2), 0);
        due.is("export(1, -1): to each is not yet to all", x.export(1, -1), 1);
        due.is("export(1, -1) again", x.export(1, -1), 0);
        due.is("export(2, -1)", x.export(2, -1), 1);
        due.is("export(2, 0): it was to all", x.export(2, 0), 0);
        x.module();
        due.is("export(2, 3): all means later ones too", x.export(2, 3), 0);
        due.is("export(0, 3): package 0 is to all", x.export(0, 3), 0);
        due.is("export(3, 0): no such package", x.export(3, 0), BAD);
        due.is("export(3, -1): no such package", x.export(3, -1), BAD);
        due.is("export(2, 4): no such module", x.export(2, 4), BAD);
        due.is("export(-1, 0)", x.export(-1, 0), BAD);
        due.is("export(2, -2)", x.export(2, -2), BAD);
        due.is("export(2, min)", x.export(2, Integer.MIN_VALUE), BAD);
        due.is("export(min, 0)", x.export(Integer.MIN_VALUE, 0), BAD);
        due.is("export(2, max)", x.export(2, Integer.MAX_VALUE), BAD);
    }

    // Promise 6
    private static void typeWrongInputs() {
        AccessJudge x = new AccessJudge();
        due.is("type: no such package", x.type(1, -1, 0, 3, 0), BAD);
        due.is("type: no such outer", x.type(0, 1, 0, 3, 0), BAD);
        due.is("type: outer -2", x.type(0, -2, 0, 3, 0), BAD);
        due.is("type: sort 2", x.type(0, -1, 2, 3, 0), BAD);
        due.is("type: access 4", x.type(0, -1, 0, 4, 0), BAD);
        due.is("type: flags 8", x.type(0, -1, 0, 3, 8), BAD);
        due.is("type: bad ahead of a rule", x.type(0, -1, 0, 0, 8), BAD);
        for (int wrong : WRONG) {
            due.is("type: package wrong", x.type(wrong, -1, 0, 3, 0), BAD);
            due.is("type: sort wrong", x.type(0, -1, wrong, 3, 0), BAD);
            due.is("type: access wrong", x.type(0, -1, 0, wrong, 0), BAD);
            due.is("type: flags wrong", x.type(0, -1, 0, 3, wrong), BAD);
            if (wrong != -1) {
                due.is("type: outer wrong", x.type(0, wrong, 0, 3, 0), BAD);
            }
        }
        due.is("type: none was made", x.count(2), 1);
    }

    private static void typeRules() {
        AccessJudge x = new AccessJudge();
        x.pack(0);
        due.is("rule 1: private at the top", x.type(0, -1, 0, 0, 0), -11);
        due.is("rule 1: protected at the top", x.type(0, -1, 0, 2, 0), -11);
        due.is("rule 1: static at the top", x.type(0, -1, 0, 3, 1), -11);
        due.is("rule 1 ahead of 4", x.type(0, -1, 1, 3, 3), -11);
        due.is("package at the top", x.type(0, -1, 0, 1, 0), 1);
        due.is("public at the top", x.type(0, -1, 1, 3, 0), 2);
        due.is("rule 2: another package", x.type(1, 1, 0, 3, 0), -12);
        due.is("rule 2 ahead of 3", x.type(1, 2, 0, 0, 0), -12);
        due.is("rule 3: in an interface, package", x.type(0, 2, 0, 1, 1), -13);
        due.is("rule 3: in an interface, protected", x.type(0, 2, 0, 2, 1), -13);
        due.is("rule 3: in an interface, private", x.type(0, 2, 0, 0, 1), -13);
        due.is("rule 3: in an interface, not static", x.type(0, 2, 0, 3, 0), -13);
        due.is("rule 3: an interface within, not static", x.type(0, 1, 1, 3, 0), -13);
        due.is("rule 3 ahead of 4", x.type(0, 1, 1, 3, 2), -13);
        due.is("rule 4: a final interface at the top", x.type(0, -1, 1, 3, 2), -14);
        due.is("rule 4: a final interface within", x.type(0, 1, 1, 0, 3), -14);
        due.is("rule 4: final and abstract", x.type(0, -1, 0, 3, 6), -14);
        due.is("rule 4: final, abstract, static", x.type(0, 1, 0, 3, 7), -14);
        due.is("none of these was made", x.count(2), 3);
        due.is("a class in an interface", x.type(0, 2, 0, 3, 1), 3);
        due.is("an interface in a class", x.type(0, 1, 1, 0, 1), 4);
        due.is("an interface that is abstract", x.type(0, 1, 1, 2, 5), 5);
        due.is("a class in a class, private", x.type(0, 1, 0, 0, 0), 6);
        due.is("a class in a class, final and static", x.type(0, 6, 0, 1, 3), 7);
        due.is("a class in the root", x.type(0, 0, 0, 2, 0), 8);
    }

    private static void typeFull() {
        AccessJudge x = new AccessJudge();
        for (int t = 1; t < 40; t++) {
            due.is("type", x.type(0, t % 3 == 0 ? t - 1 : -1, 0, 3, 0), t);
        }
        due.is("type: full", x.type(0, -1, 0, 3, 0), FULL);
        due.is("type: a rule ahead of full", x.type(0, -1, 0, 0, 0), -11);
        due.is("type: bad ahead of full", x.type(0, 40, 0, 3, 0), BAD);
        due.is("type: count", x.count(2), 40);
        due.is("type: the last one is there", x.about(39, 2), 38);
    }

    // Promise 7
    private static void parent() {
        AccessJudge x = new AccessJudge();
        for (int t = 1; t <= 5; t++) {
            x.type(0, -1, t == 5 ? 1 : 0, 3, 0);
        }
        due.is("parent: the root again", x.parent(1, 0), 1);
        due.is("parent: still the root", x.about(1, 3), 0);
        due.is("parent(1, 2): a later one", x.parent(1, 2), 1);
        due.is("parent: told", x.about(1, 3), 2);
        due.is("parent: another one no more", x.parent(1, 3), NONE);
        due.is("parent: the same one no more", x.parent(1, 2), NONE);
        due.is("parent: the root no more", x.parent(1, 0), NONE);
        due.is("parent: itself", x.parent(2, 2), NONE);
        due.is("parent: one below it", x.parent(2, 1), NONE);
        due.is("parent(2, 3)", x.parent(2, 3), 1);
        due.is("parent: one far below it", x.parent(3, 1), NONE);
        due.is("parent: an interface", x.parent(4, 5), BAD);
        due.is("parent: of an interface", x.parent(5, 4), BAD);
        due.is("parent: of the root", x.parent(0, 4), BAD);
        due.is("parent: bad ahead of none", x.parent(0, 0), BAD);
        due.is("parent: no such ones", x.parent(6, 0), BAD);
        for (int wrong : WRONG) {
            due.is("parent(wrong, 0)", x.parent(wrong, 0), BAD);
            due.is("parent(4, wrong)", x.parent(4, wrong), BAD);
        }
        due.is("parent: below root is all but the interface", x.about(0, 6), 4);
        due.is("parent: 1 is below 3", x.below(1, 3), 1);
    }

    // Promise 8
    private static void face() {
        AccessJudge x = new AccessJudge();
        x.type(0, -1, 0, 3, 0);
        for (int t = 2; t <= 8; t++) {
            x.type(0, -1, 1, 3, 0);
        }
        due.is("face(1, 2)", x.face(1, 2), 1);
        due.is("face(1, 2) again", x.face(1, 2), NONE);
        due.is("face: itself", x.face(2, 2), NONE);
        due.is("face(2, 3)", x.face(2, 3), 1);
        due.is("face(3, 4)", x.face(3, 4), 1);
        due.is("face: one far below it", x.face(4, 2), NONE);
        due.is("face: one above already, but not its own", x.face(1, 3), 2);
        due.is("face(1, 5)", x.face(1, 5), 3);
        due.is("face(1, 6)", x.face(1, 6), 4);
        due.is("face: full", x.face(1, 7), FULL);
        due.is("face: none ahead of full", x.face(1, 6), NONE);
        due.is("face: bad ahead of full", x.face(1, 0), BAD);
        due.is("face: a class", x.face(2, 1), BAD);
        due.is("face: of the root", x.face(0, 7), BAD);
        due.is("face: no such ones", x.face(9, 7), BAD);
        for (int wrong : WRONG) {
            due.is("face(wrong, 2)", x.face(wrong, 2), BAD);
            due.is("face(7, wrong)", x.face(7, wrong), BAD);
        }
        due.is("face: how many", x.about(1, 4), 4);
        due.is("face: 7 is not above", x.below(1, 7), 0);
        due.is("face: 4 is above", x.below(1, 4), 1);
        for (int i = 3; i <= 6; i++) {
            x.face(7, i);
        }
        due.is("face: full, too, for one below", x.face(7, 7), NONE);
        due.is("face: one that has four above can be one", x.face(8, 7), 1);
        due.is("face: none ahead of full for what is below", x.face(7, 8), NONE);
    }

    // Promise 9
    private static void memberWrongInputs() {
        AccessJudge x = new AccessJudge();
        due.is("member: no such type", x.member(1, 0, 0, 3, 0), BAD);
        due.is("member: kind 3", x.member(0, 3, 0, 3, 0), BAD);
        due.is("member: name 10", x.member(0, 0, 10, 3, 0), BAD);
        due.is("member: access 4", x.member(0, 0, 0, 4, 0), BAD);
        due.is("member: flags 8", x.member(0, 0, 0, 3, 8), BAD);
        for (int wrong : WRONG) {
            due.is("member: type wrong", x.member(wrong, 0, 0, 3, 0), BAD);
            due.is("member: kind wrong", x.member(0, wrong, 0, 3, 0), BAD);
            due.is("member: name wrong", x.member(0, 0, wrong, 3, 0), BAD);
            due.is("member: access wrong", x.member(0, 0, 0, wrong, 0), BAD);
            due.is("member: flags wrong", x.member(0, 0, 0, 3, wrong), BAD);
        }
        due.is("member: none was made", x.count(3), 0);
    }

    private static void memberRules() {
        AccessJudge x = new AccessJudge();
        x.type(0, -1, 1, 3, 0);
        x.type(0, -1, 0, 3, 0);
        x.type(0, -1, 0, 3, 4);
        due.is("rule 5: a maker of an interface", x.member(1, 2, 0, 3, 0), -15);
        due.is("rule 5: a package field", x.member(1, 0, 0, 1, 1), -15);
        due.is("rule 5: a field that is not static", x.member(1, 0, 0, 3, 2), -15);
        due.is("rule 5: a package method", x.member(1, 1, 0, 1, 0), -15);
        due.is("rule 5: a protected method", x.member(1, 1, 0, 2, 4), -15);
        due.is("rule 5: a final method", x.member(1, 1, 0, 3, 2), -15);
        due.is("rule 5 ahead of 6", x.member(1, 2, 0, 3, 7), -15);
        due.is("rule 5 ahead of 7", x.member(1, 1, 0, 0, 6), -15);
        due.is("rule 6: a maker with flags", x.member(2, 2, 0, 3, 1), -16);
        due.is("rule 6: an abstract field", x.member(3, 0, 0, 3, 4), -16);
        due.is("rule 6: an abstract field of an interface", x.member(1, 0, 0, 3, 5), -16);
        due.is("rule 7: abstract and private", x.member(3, 1, 0, 0, 4), -17);
        due.is("rule 7: abstract and static", x.member(3, 1, 0, 3, 5), -17);
        due.is("rule 7: abstract and final", x.member(3, 1, 0, 3, 6), -17);
        due.is("rule 7: of an interface, private", x.member(1, 1, 0, 0, 4), -17);
        due.is("rule 7: of an interface, static", x.member(1, 1, 0, 3, 5), -17);
        due.is("rule 7: of a class that is not abstract", x.member(2, 1, 0, 3, 4), -17);
        due.is("none of these was made", x.count(3), 0);
        due.is("an interface's abstract method", x.member(1, 1, 0, 3, 4), 0);
        due.is("an interface's private static method", x.member(1, 1, 1, 0, 1), 1);
        due.is("an interface's final field", x.member(1, 0, 0, 3, 3), 2);
        due.is("an abstract class's method", x.member(3, 1, 0, 1, 4), 3);
        due.is("a private final static field", x.member(2, 0, 0, 0, 3), 4);
        due.is("a method of the name", x.member(2, 1, 0, 3, 3), 5);
        due.is("a maker of the name", x.member(2, 2, 0, 0, 0), 6);
        due.is("rule 8: a field again", x.member(2, 0, 0, 3, 0), -18);
        due.is("rule 8: a method again", x.member(2, 1, 0, 3, 0), -18);
        due.is("rule 8: a maker again", x.member(2, 2, 0, 3, 0), -18);
        due.is("rule 7 ahead of 8", x.member(2, 1, 0, 3, 4), -17);
        due.is("another name", x.member(2, 0, 9, 3, 0), 7);
        due.is("of the root", x.member(0, 1, 0, 3, 0), 8);
    }

    private static void memberFull() {
        AccessJudge x = new AccessJudge();
        for (int t = 1; t <= 4; t++) {
            x.type(0, -1, 0, 3, 0);
        }
        for (int m = 0; m < 120; m++) {
            due.is("member", x.member(m / 30, m % 3, m % 30 / 3, 3, 0), m);
        }
        due.is("member: full", x.member(4, 0, 0, 3, 0), FULL);
        due.is("member: a rule ahead of full", x.member(3, 0, 0, 3, 0), -18);
        due.is("member: bad ahead of full", x.member(5, 0, 0, 3, 0), BAD);
        due.is("member: count", x.count(3), 120);
        due.is("member: the last one is there", x.of(3, 119), 1);
        due.is("member: what a type without own ones has", x.about(4, 5), 20);
    }

    // Promise 10
    private static void count() {
        AccessJudge x = new AccessJudge();
        x.module();
        x.pack(0);
        x.pack(1);
        x.type(0, -1, 0, 3, 0);
        x.type(0, -1, 0, 3, 0);
        x.type(0, -1, 0, 3, 0);
        for (int name = 0; name < 5; name++) {
            x.member(1, 0, name, 3, 0);
        }
        due.is("count(0)", x.count(0), 2);
        due.is("count(1)", x.count(1), 3);
        due.is("count(2)", x.count(2), 4);
        due.is("count(3)", x.count(3), 5);
        due.is("count(4)", x.count(4), BAD);
        for (int wrong : WRONG) {
            due.is("count(wrong)", x.count(wrong), BAD);
        }
    }

    // Promise 11
    private static void about() {
        AccessJudge x = new AccessJudge();
        x.pack(0);
        x.type(1, -1, 0, 3, 0);
        x.type(1, 1, 0, 0, 0);
        x.type(1, 2, 1, 0, 1);
        x.type(0, -1, 1, 3, 0);
        x.parent(2, 1);
        x.face(2, 3);
        x.face(2, 4);
        x.face(3, 4);
        due.is("about: package", x.about(3, 0), 1);
        due.is("about: package 0", x.about(4, 0), 0);
        due.is("about: outer", x.about(3, 1), 2);
        due.is("about: no outer", x.about(1, 1), NONE);
        due.is("about: top", x.about(3, 2), 1);
        due.is("about: own top", x.about(4, 2), 4);
        due.is("about: parent", x.about(2, 3), 1);
        due.is("about: parent is the root", x.about(1, 3), 0);
        due.is("about: an interface's parent", x.about(3, 3), NONE);
        due.is("about: faces", x.about(2, 4), 2);
        due.is("about: no faces", x.about(1, 4), 0);
        due.is("about: below the root, no interfaces", x.about(0, 6), 2);
        due.is("about: below 4", x.about(4, 6), 2);
        due.is("about: below 2", x.about(2, 6), 0);
        due.is("about: what 7", x.about(1, 7), BAD);
        due.is("about: no such type", x.about(5, 0), BAD);
        for (int wrong : WRONG) {
            due.is("about(wrong, 0)", x.about(wrong, 0), BAD);
            due.is("about(0, wrong)", x.about(0, wrong), BAD);
        }
    }

    private static void aboutMembers() {
        AccessJudge x = new AccessJudge();
        x.type(0, -1, 0, 3, 0);
        x.member(0, 1, 0, 3, 0);
        x.member(0, 2, 0, 3, 0);
        x.member(0, 0, 0, 0, 0);
        due.is("about: a declared maker and a private field count", x.about(0, 5), 3);
        due.is("about: neither is inherited", x.about(1, 5), 1);
        x.member(1, 1, 0, 3, 0);
        due.is("about: one's own for the inherited one", x.about(1, 5), 1);
        x.type(0, -1, 0, 3, 0);
        due.is("about: a type that came later", x.about(2, 5), 1);
        x.parent(2, 1);
        due.is("about: after a parent was told", x.about(2, 5), 1);
        due.is("about: it is the parent's", x.of(2, 3), 1);
    }

    private static void refusedChangesNothing() {
        AccessJudge x = new AccessJudge();
        x.type(0, -1, 1, 3, 0);
        x.type(0, -1, 0, 3, 0);
        x.face(2, 1);
        x.member(1, 1, 0, 3, 4);
        x.type(0, -1, 0, 0, 0);
        x.type(0, 7, 0, 3, 0);
        x.parent(2, 2);
        x.parent(0, 2);
        x.face(1, 1);
        x.face(0, 1);
        x.member(2, 1, 0, 3, 4);
        x.member(1, 1, 0, 3, 0);
        x.reads(0, 1);
        x.pack(1);
        x.export(1, -1);
        due.is("refused: modules", x.count(0), 1);
        due.is("refused: packages", x.count(1), 1);
        due.is("refused: types", x.count(2), 3);
        due.is("refused: members", x.count(3), 1);
        due.is("refused: parent", x.about(2, 3), 0);
        due.is("refused: root's parent", x.about(0, 3), NONE);
        due.is("refused: faces", x.about(1, 4), 0);
        due.is("refused: root's faces", x.about(0, 4), 0);
        due.is("refused: below", x.below(0, 1), 0);
        due.is("refused: the abstract method stays so", x.fault(2, 0, 0), 7);
    }
}
