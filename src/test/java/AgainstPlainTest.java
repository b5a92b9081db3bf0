/**
 * Long runs of calls, made up by a fixed sequence of numbers, whose answers are held against
 * those of PlainJudge: single runs that grow step by step, and whole worlds asked everything.
 */
public final class AgainstPlainTest {
    private static final Due due = new Due("AgainstPlainTest");
    private static long seed;
    private static AccessJudge x;
    private static PlainJudge y;
    private static int[] seen = new int[64];

    public static void main(String[] args) {
        for (int run = 1; run <= 400; run++) {
            start(run);
            for (int i = 0; i < 512; i++) {
                if (i < 60 || below(3) == 0) {
                    build(run);
                } else {
                    ask(run);
                }
            }
        }
        for (int run = 1001; run <= 1060; run++) {
            start(run);
            for (int i = 0; i < 250; i++) {
                build(run);
            }
            askAll(run);
        }
        everyKindOfAnswerCame();
        due.end();
    }

    private static void start(int run) {
        seed = run * 7919L + 17;
        x = new AccessJudge();
        y = new PlainJudge();
    }

    private static int below(int bound) {
        seed = seed * 6364136223846793005L + 1442695040888963407L;
        return (int) ((seed >>> 33) % bound);
    }

    // Now and then one that is out of reach, else one of those that there are.
    private static int number(int what) {
        int there = x.count(what);
        return below(40) == 0 || there == 0 ? below(4) == 0 ? -1 - below(2) : there + below(2)
                : below(there);
    }

    private static int late(int what) {
        int there = x.count(what);
        return below(2) == 0 && there > 3 ? there - 1 - below(3) : number(what);
    }

    private static int choice(int bound) {
        return below(60) == 0 ? below(2) == 0 ? -1 : bound : below(bound);
    }

    private static int flags() {
        int f = below(16);
        return below(60) == 0 ? below(2) == 0 ? -1 : 8
                : f < 8 ? f : f < 12 ? 0 : f < 14 ? 4 : f - 13;
    }

    private static void build(int run) {
        int names = run % 4 == 0 ? 10 : 1 + run % 3;
        switch (below(24)) {
            case 0:
                same("module", x.module(), y.module());
                break;
            case 1: {
                int m = number(0), n = number(0);
                same("reads " + m + " " + n, x.reads(m, n), y.reads(m, n));
                break;
            }
            case 2: {
                int m = number(0);
                same("pack " + m, x.pack(m), y.pack(m));
                break;
            }
            case 3: {
                int p = number(1), to = below(4) == 0 ? -1 : number(0);
                same("export " + p + " " + to, x.export(p, to), y.export(p, to));
                break;
            }
            case 4: case 5: case 6: case 7: case 8:
                buildType();
                break;
            case 9: case 10: case 11: {
                int t = late(2), p = number(2);
                same("parent " + t + " " + p, x.parent(t, p), y.parent(t, p));
                break;
            }
            case 12: case 13: case 14: case 15: {
                int t = late(2), i = number(2);
                same("face " + t + " " + i, x.face(t, i), y.face(t, i));
                break;
            }
            default:
                buildMember(names);
        }
    }

    private static void buildType() {
        int outer = below(2) == 0 ? -1 : number(2);
        int pack = number(1);
        if (outer >= 0 && below(8) != 0 && outer < x.count(2)) {
            pack = x.about(outer, 0);
        }
        int sort = choice(2), access = outer < 0 && below(8) != 0 ? 1 + 2 * below(2) : choice(4);
        int flags = outer < 0 && below(8) != 0 ? 2 * below(3) : flags();
        if (sort == 1 && outer >= 0 && below(4) != 0) {
            access = 3;
            flags = 1;
        }
        same("type " + pack + " " + outer + " " + sort + " " + access + " " + flags,
                x.type(pack, outer, sort, access, flags), y.type(pack, outer, sort, access, flags));
    }

    private static void buildMember(int names) {
        int t = number(2), kind = below(4) == 0 ? choice(3) : 1, name = choice(names);
        int access = choice(4), flags = flags();
        if (below(3) == 0) {
            access = 3;
            flags = kind == 1 ? 4 * below(2) : 1;
        }
        same("member " + t + " " + kind + " " + name + " " + access + " " + flags,
                x.member(t, kind, name, access, flags), y.member(t, kind, name, access, flags));
    }

    private static void ask(int run) {
        int names = run % 4 == 0 ? 10 : 1 + run % 3;
        int t = number(2), u = number(2), m = number(3), n = number(3), name = choice(names);
        int how = choice(4), kind = choice(2), what = choice(7), i = below(4);
        same("count " + what, x.count(what), y.count(what));
        same("about " + t + " " + what, x.about(t, what), y.about(t, what));
        same("below " + t + " " + u, x.below(t, u), y.below(t, u));
        same("open " + t + " " + u, x.open(t, u), y.open(t, u));
        same("of " + t + " " + m, x.of(t, m), y.of(t, m));
        same("use " + t + " " + how + " " + u + " " + kind + " " + name,
                x.use(t, how, u, kind, name), y.use(t, how, u, kind, name));
        how = choice(3);
        same("make " + t + " " + how + " " + u + " " + name,
                x.make(t, how, u, name), y.make(t, how, u, name));
        same("overrides " + m + " " + n, x.overrides(m, n), y.overrides(m, n));
        same("choose " + m + " " + t, x.choose(m, t), y.choose(m, t));
        same("check " + t, x.check(t), y.check(t));
        what = choice(2);
        same("fault " + t + " " + i + " " + what, x.fault(t, i, what), y.fault(t, i, what));
    }

    private static void askAll(int run) {
        int types = x.count(2), members = x.count(3);
        for (int t = -1; t <= types; t++) {
            for (int what = -1; what <= 7; what++) {
                same("about " + t + " " + what, x.about(t, what), y.about(t, what));
            }
            for (int i = -1; i <= y.check(t); i++) {
                same("fault " + t + " " + i, x.fault(t, i, 0), y.fault(t, i, 0));
                same("fault " + t + " " + i, x.fault(t, i, 1), y.fault(t, i, 1));
                if (i >= 0) {
                    saw(40 + Math.max(0, x.fault(t, i, 0)));
                }
            }
            same("check " + t, x.check(t), y.check(t));
            for (int u = -1; u <= types; u++) {
                same("below " + t + " " + u, x.below(t, u), y.below(t, u));
                same("open " + t + " " + u, x.open(t, u), y.open(t, u));
                askUses(t, u, run % 4 == 0 ? 10 : 3);
            }
            for (int m = -1; m <= members; m++) {
                same("of " + t + " " + m, x.of(t, m), y.of(t, m));
                int chosen = x.choose(m, t);
                same("choose " + m + " " + t, chosen, y.choose(m, t));
                saw(chosen >= 0 ? 50 : 50 - chosen);
            }
        }
        for (int d = -1; d <= members; d++) {
            for (int a = -1; a <= members; a++) {
                same("overrides " + d + " " + a, x.overrides(d, a), y.overrides(d, a));
            }
        }
    }

    private static void askUses(int f, int q, int names) {
        for (int name = 0; name < names; name++) {
            for (int how = 0; how < 4; how++) {
                for (int kind = 0; kind < 2; kind++) {
                    int got = x.use(f, how, q, kind, name);
                    same("use " + f + " " + how + " " + q + " " + kind + " " + name,
                            got, y.use(f, how, q, kind, name));
                    saw(got >= 0 ? 0 : -got);
                }
                int made = x.make(f, how, q, name);
                same("make " + f + " " + how + " " + q + " " + name,
                        made, y.make(f, how, q, name));
                saw(20 + (made >= 0 ? 0 : -made));
            }
        }
    }

    private static void same(String call, int got, int want) {
        due.is(call, got, want);
    }

    private static void saw(int place) {
        seen[place]++;
    }

    // Else the runs would say less than they seem to.
    private static void everyKindOfAnswerCame() {
        int[] wanted = {0, 1, 11, 12, 13, 14, 15, 16, 20, 21, 31, 32, 33, 35, 36,
            41, 42, 43, 44, 45, 46, 47, 48, 50, 51, 52, 53};
        for (int place : wanted) {
            due.holds("the runs come to the answer " + place, seen[place] > 0);
        }
    }
}
