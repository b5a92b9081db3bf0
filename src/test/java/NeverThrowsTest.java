/** No call throws, for any arguments in any state, and the same calls give the same answers. */
public final class NeverThrowsTest {
    private static final Due due = new Due("NeverThrowsTest");
    private static final int[] ODD = {Integer.MIN_VALUE, Integer.MIN_VALUE + 1, -65, -64, -11, -10,
        -5, -4, -3, -2, -1, 0, 1, 2, 3, 4, 5, 6, 7, 8, 9, 10, 11, 31, 32, 33, 39, 40, 41, 63, 64,
        65, 119, 120, 121, 1 << 30, Integer.MAX_VALUE - 1, Integer.MAX_VALUE};
    private static long seed;

    public static void main(String[] args) {
        for (int state = 0; state < 6; state++) {
            AccessJudge x = inState(state);
            AccessJudge same = inState(state);
            seed = state;
            for (int i = 0; i < 60000; i++) {
                long before = seed;
                int first = oddCall(x);
                seed = before;
                int second = oddCall(same);
                due.is("state " + state + ", the same call twice", second, first);
                if (first < -18) {
                    due.is("state " + state + ", an answer that is none", first, -1);
                }
            }
        }
        due.end();
    }

    private static AccessJudge inState(int state) {
        AccessJudge x = new AccessJudge();
        for (int i = 0; state > 0 && i < 9; i++) {
            x.module();
            x.pack(i % 6);
        }
        for (int t = 1; state > 1 && t < 40; t++) {
            boolean isInterface = state == 2 || state > 3 && t % 3 == 0;
            x.type(t % 5, t % 10 == 0 ? t - 5 : -1, isInterface ? 1 : 0, 3, t % 10 == 0 ? 1 : 0);
        }
        // Downwards and upwards by number, so that the long chains lie both ways.
        for (int t = 1; state > 1 && t < 40; t++) {
            int u = state % 2 == 0 ? t - 1 : t + 1;
            x.parent(t, u);
            x.face(t, u);
            x.face(t, state % 2 == 0 ? t - 2 : t + 2);
        }
        for (int m = 0; state > 2 && m < 120; m++) {
            x.member(m % 40, m % 3 == 0 ? m % 2 : 1, m / 40, 3, m % 2);
        }
        return x;
    }

    private static int odd() {
        seed = seed * 6364136223846793005L + 1442695040888963407L;
        return ODD[(int) ((seed >>> 33) % ODD.length)];
    }

    private static int oddCall(AccessJudge x) {
        int a = odd(), b = odd(), c = odd(), d = odd(), e = odd();
        switch ((int) (seed >>> 35 & 31)) {
            case 0: return x.module();
            case 1: return x.reads(a, b);
            case 2: return x.pack(a);
            case 3: return x.export(a, b);
            case 4: return x.type(a, b, c, d, e);
            case 5: return x.parent(a, b);
            case 6: return x.face(a, b);
            case 7: return x.member(a, b, c, d, e);
            case 8: return x.count(a);
            case 9: case 10: return x.about(a, b);
            case 11: return x.below(a, b);
            case 12: case 13: return x.open(a, b);
            case 14: case 15: return x.of(a, b);
            case 16: case 17: case 18: case 19: return x.use(a, b, c, d, e);
            case 20: case 21: case 22: return x.make(a, b, c, d);
            case 23: case 24: return x.overrides(a, b);
            case 25: case 26: return x.choose(a, b);
            case 27: case 28: return x.check(a);
            default: return x.fault(a, b, c);
        }
    }
}
