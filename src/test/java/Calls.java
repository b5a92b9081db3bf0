/** Calls as numbers: which one it is, then its arguments. */
final class Calls {
    static final int MODULE = 0, READS = 1, PACK = 2, EXPORT = 3, TYPE = 4, PARENT = 5, FACE = 6;
    static final int MEMBER = 7, COUNT = 8, ABOUT = 9, BELOW = 10, OPEN = 11, OF = 12, USE = 13;
    static final int MAKE = 14, OVERRIDES = 15, CHOOSE = 16, CHECK = 17, FAULT = 18;
    /** An object is used for at most so many. */
    static final int MOST = 512;
    private static final String[] NAMES = {"module", "reads", "pack", "export", "type", "parent",
        "face", "member", "count", "about", "below", "open", "of", "use", "make", "overrides",
        "choose", "check", "fault"};

    private Calls() {
    }

    static int run(AccessJudge x, int... c) {
        switch (c[0]) {
            case MODULE: return x.module();
            case READS: return x.reads(c[1], c[2]);
            case PACK: return x.pack(c[1]);
            case EXPORT: return x.export(c[1], c[2]);
            case TYPE: return x.type(c[1], c[2], c[3], c[4], c[5]);
            case PARENT: return x.parent(c[1], c[2]);
            case FACE: return x.face(c[1], c[2]);
            case MEMBER: return x.member(c[1], c[2], c[3], c[4], c[5]);
            case COUNT: return x.count(c[1]);
            case ABOUT: return x.about(c[1], c[2]);
            case BELOW: return x.below(c[1], c[2]);
            case OPEN: return x.open(c[1], c[2]);
            case OF: return x.of(c[1], c[2]);
            case USE: return x.use(c[1], c[2], c[3], c[4], c[5]);
            case MAKE: return x.make(c[1], c[2], c[3], c[4]);
            case OVERRIDES: return x.overrides(c[1], c[2]);
            case CHOOSE: return x.choose(c[1], c[2]);
            case CHECK: return x.check(c[1]);
            default: return x.fault(c[1], c[2], c[3]);
        }
    }

    static int run(PlainJudge x, int... c) {
        switch (c[0]) {
            case MODULE: return x.module();
            case READS: return x.reads(c[1], c[2]);
            case PACK: return x.pack(c[1]);
            case EXPORT: return x.export(c[1], c[2]);
            case TYPE: return x.type(c[1], c[2], c[3], c[4], c[5]);
            case PARENT: return x.parent(c[1], c[2]);
            case FACE: return x.face(c[1], c[2]);
            case MEMBER: return x.member(c[1], c[2], c[3], c[4], c[5]);
            case COUNT: return x.count(c[1]);
            case ABOUT: return x.about(c[1], c[2]);
            case BELOW: return x.below(c[1], c[2]);
            case OPEN: return x.open(c[1], c[2]);
            case OF: return x.of(c[1], c[2]);
            case USE: return x.use(c[1], c[2], c[3], c[4], c[5]);
            case MAKE: return x.make(c[1], c[2], c[3], c[4]);
            case OVERRIDES: return x.overrides(c[1], c[2]);
            case CHOOSE: return x.choose(c[1], c[2]);
            case CHECK: return x.check(c[1]);
            default: return x.fault(c[1], c[2], c[3]);
        }
    }

    static String text(int... c) {
        StringBuilder text = new StringBuilder(NAMES[c[0]]).append('(');
        for (int i = 1; i < c.length; i++) {
            text.append(i > 1 ? ", " : "").append(c[i]);
        }
        return text.append(')').toString();
    }
}
