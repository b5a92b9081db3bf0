/**
 * No call throws, for any arguments in any state, and the same calls give the same answers: also
 * beyond the 512 calls for which the document says what the answers are.
 */
public final class NeverThrowsTest {
    private static final Due due = new Due("NeverThrowsTest");
    private static final int[] ODD = {Integer.MIN_VALUE, Integer.MIN_VALUE + 1, -65, -64, -11, -10,
        -5, -4, -3, -2, -1, 0, 1, 2, 3, 4, 5, 6, 7, 8, 9, 10, 11, 31, 32, 33, 39, 40, 41, 63, 64,
        65, 119, 120, 121, 1 << 30, Integer.MAX_VALUE - 1, Integer.MAX_VALUE};
    private static long seed;

    public static void main(String[] args) {
        for (int state = 0; state < 6; state++) {
            AccessJudge x = inState(state);
            AccessJudge same = inState(state);
            seed = state;
            for (int i = 0; i < 60000; i++) {
                int[] call = oddCall();
                due.is("state " + state + ", " + Calls.text(call) + " of two that are alike",
                        Calls.run(same, call), Calls.run(x, call));
            }
        }
        due.end();
    }

    private static AccessJudge inState(int state) {
        AccessJudge x = new AccessJudge();
        for (int i = 0; state > 0 && i < 9; i++) {
            x.module();
            x.pack(i % 6);
        }
        for (int t = 1; state > 1 && t < 40; t++) {
            boolean isInterface = state == 2 || state > 3 && t % 3 == 0;
            x.type(t % 5, t % 10 == 0 ? t - 5 : -1, isInterface ? 1 : 0, 3, t % 10 == 0 ? 1 : 0);
        }
        // Downwards and upwards by number, so that the long chains lie both ways.
        for (int t = 1; state > 1 && t < 40; t++) {
            int u = state % 2 == 0 ? t - 1 : t + 1;
            x.parent(t, u);
            x.face(t, u);
            x.face(t, state % 2 == 0 ? t - 2 : t + 2);
        }
        for (int m = 0; state > 2 && m < 120; m++) {
            x.member(m % 40, m % 3 == 0 ? m % 2 : 1, m / 40, 3, m % 2);
        }
        return x;
    }

    private static int odd() {
        seed = seed * 6364136223846793005L + 1442695040888963407L;
        return ODD[(int) ((seed >>> 33) % ODD.length)];
    }

    private static int[] oddCall() {
        int[] call = new int[6];
        for (int i = 1; i < call.length; i++) {
            call[i] = odd();
        }
        call[0] = (int) ((seed >>> 35) % (Calls.FAULT + 1));
        return call;
    }
}
