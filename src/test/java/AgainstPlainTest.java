import java.util.ArrayList;
import java.util.List;

/**
 * Long runs of calls, made up by a fixed sequence of numbers, whose answers are held against
 * those of PlainJudge: single runs that grow step by step, and whole worlds asked everything. No
 * object is used for more calls than the document allows; a world is then built anew.
 */
public final class AgainstPlainTest {
    private static final Due due = new Due("AgainstPlainTest");
    private static final int[] seen = new int[64];
    private static long seed;
    private static int run;
    private static AccessJudge x;
    private static PlainJudge y;
    private static int made;
    private static final List<int[]> built = new ArrayList<>();

    public static void main(String[] args) {
        for (run = 1; run <= 1500; run++) {
            start();
            while (made < Calls.MOST) {
                if (made < 60 || below(5) < 2) {
                    build();
                } else {
                    ask();
                }
            }
        }
        for (run = 2001; run <= 2060; run++) {
            start();
            while (made < 250) {
                build();
            }
            askAll();
        }
        everyKindOfAnswerCame();
        due.end();
    }

    private static void start() {
        seed = run * 7919L + 17;
        x = new AccessJudge();
        y = new PlainJudge();
        made = 0;
        built.clear();
    }

    private static void again() {
        x = new AccessJudge();
        made = 0;
        for (int[] call : built) {
            Calls.run(x, call);
            made++;
        }
    }

    private static int same(int... call) {
        if (made >= Calls.MOST) {
            again();
        }
        made++;
        if (call[0] < Calls.COUNT) {
            built.add(call);
        }
        int got = Calls.run(x, call);
        int want = Calls.run(y, call);
        due.is(got == want ? "" : "run " + run + ", " + Calls.text(call), got, want);
        return got;
    }

    private static int below(int bound) {
        seed = seed * 6364136223846793005L + 1442695040888963407L;
        return (int) ((seed >>> 33) % bound);
    }

    // Now and then one that is out of reach, else one of those that there are.
    private static int number(int what) {
        int there = y.count(what);
        return below(40) == 0 || there == 0 ? below(4) == 0 ? -1 - below(2) : there + below(2)
                : below(there);
    }

    private static int late(int what) {
        int there = y.count(what);
        return below(2) == 0 && there > 3 ? there - 1 - below(3) : number(what);
    }

    private static int choice(int bound) {
        return below(60) == 0 ? below(2) == 0 ? -1 : bound : below(bound);
    }

    private static int flags() {
        int f = below(16);
        return below(60) == 0 ? below(2) == 0 ? -1 : 8
                : f < 8 ? f : f < 12 ? 0 : f < 14 ? 4 : f - 13;
    }

    private static int names() {
        return run % 4 == 0 ? 10 : 1 + run % 3;
    }

    private static void build() {
        switch (below(24)) {
            case 0:
                same(Calls.MODULE);
                break;
            case 1:
                same(Calls.READS, number(0), number(0));
                break;
            case 2:
                same(Calls.PACK, number(0));
                break;
            case 3:
                same(Calls.EXPORT, number(1), below(4) == 0 ? -1 : number(0));
                break;
            case 4: case 5: case 6: case 7: case 8:
                buildType();
                break;
            case 9: case 10: case 11:
                same(Calls.PARENT, late(2), number(2));
                break;
            case 12: case 13: case 14: case 15:
                same(Calls.FACE, late(2), number(2));
                break;
            default:
                buildMember();
        }
    }

    private static void buildType() {
        int outer = below(2) == 0 ? -1 : number(2);
        int pack = number(1);
        if (outer >= 0 && below(8) != 0 && outer < y.count(2)) {
            pack = y.about(outer, 0);
        }
        int sort = choice(2), access = outer < 0 && below(8) != 0 ? 1 + 2 * below(2) : choice(4);
        int flags = outer < 0 && below(8) != 0 ? 2 * below(3) : flags();
        if (sort == 1 && outer >= 0 && below(4) != 0) {
            access = 3;
            flags = 1;
        }
        same(Calls.TYPE, pack, outer, sort, access, flags);
    }

    private static void buildMember() {
        int t = number(2), kind = below(4) == 0 ? choice(3) : 1, name = choice(names());
        int access = choice(4), flags = flags();
        if (below(3) == 0) {
            access = 3;
            flags = kind == 1 ? 4 * below(2) : 1;
        }
        same(Calls.MEMBER, t, kind, name, access, flags);
    }

    private static void ask() {
        switch (below(16)) {
            case 0: same(Calls.COUNT, choice(4)); break;
            case 1: same(Calls.ABOUT, number(2), choice(7)); break;
            case 2: same(Calls.BELOW, number(2), number(2)); break;
            case 3: same(Calls.OPEN, number(2), number(2)); break;
            case 4: case 5: same(Calls.OF, number(2), number(3)); break;
            case 6: case 7: case 8:
                same(Calls.USE, number(2), choice(4), number(2), choice(2), choice(names()));
                break;
            case 9: same(Calls.MAKE, number(2), choice(3), number(2), choice(names())); break;
            case 10: same(Calls.OVERRIDES, number(3), number(3)); break;
            case 11: case 12: same(Calls.CHOOSE, number(3), number(2)); break;
            case 13: same(Calls.CHECK, number(2)); break;
            default: same(Calls.FAULT, number(2), below(4), choice(2));
        }
    }

    private static void askAll() {
        int types = y.count(2), members = y.count(3);
        for (int t = -1; t <= types; t++) {
            for (int what = -1; what <= 7; what++) {
                same(Calls.ABOUT, t, what);
            }
            for (int i = -1; i <= y.check(t); i++) {
                int code = same(Calls.FAULT, t, i, 0);
                same(Calls.FAULT, t, i, 1);
                saw(code > 0 ? 40 + code : 0);
            }
            same(Calls.CHECK, t);
            for (int u = -1; u <= types; u++) {
                same(Calls.BELOW, t, u);
                same(Calls.OPEN, t, u);
                askUses(t, u, run % 4 == 0 ? 10 : 3);
            }
            for (int m = -1; m <= members; m++) {
                same(Calls.OF, t, m);
                int chosen = same(Calls.CHOOSE, m, t);
                saw(chosen >= 0 ? 50 : 50 - chosen);
            }
        }
        for (int d = -1; d <= members; d++) {
            for (int a = -1; a <= members; a++) {
                same(Calls.OVERRIDES, d, a);
            }
        }
    }

    private static void askUses(int f, int q, int names) {
        for (int name = 0; name < names; name++) {
            for (int how = 0; how < 4; how++) {
                for (int kind = 0; kind < 2; kind++) {
                    int got = same(Calls.USE, f, how, q, kind, name);
                    saw(got >= 0 ? 0 : -got);
                }
                int maker = same(Calls.MAKE, f, how, q, name);
                saw(20 + (maker >= 0 ? 0 : -maker));
            }
        }
    }

    private static void saw(int place) {
        seen[place]++;
    }

    // Else the runs would say less than they seem to.
    private static void everyKindOfAnswerCame() {
        int[] wanted = {0, 1, 11, 12, 13, 14, 15, 16, 20, 21, 31, 32, 33, 35, 36,
            41, 42, 43, 44, 45, 46, 47, 48, 50, 51, 52, 53};
        for (int place : wanted) {
            due.holds("the runs come to the answer " + place, seen[place] > 0);
        }
    }
}
