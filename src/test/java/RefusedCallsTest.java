import java.io.IOException;
import java.util.ArrayList;
import java.util.Arrays;
import java.util.List;

/**
 * What is refused changes nothing: objects to which many calls were refused answer all later
 * calls as those to which none was; and those that were asked much as those that were asked
 * nothing. No object is used for more calls than the document allows.
 */
public final class RefusedCallsTest {
    private static final int LATER = 240;
    private static final int LEAST = Integer.MIN_VALUE, MOST = Integer.MAX_VALUE;
    private static Sentences doc;
    private static List<int[]> world;
    private static List<int[]> calls = new ArrayList<>();
    /** Calls that come later, in pieces of LATER at most, and what is due to each piece. */
    private static List<List<int[]>> pieces;
    private static List<int[]> answersDue;

    public static void main(String[] args) throws IOException {
        doc = new Sentences("RefusedCallsTest", args);
        manySorts();
        asManyAsThereMayBe();
        nothingYet();
        betweenTheCalls();
        askedAheadOfEachCall(someOfEach());
        askedAheadOfEachCall(membersAheadOfTypes());
        doc.end(2, 3, 4, 5, 6, 7, 8, 9, 10, 11, 12, 13, 14, 15, 16, 17, 18, 19, 20);
    }

    private static void add(int... call) {
        calls.add(call);
    }

    private static List<int[]> taken() {
        List<int[]> all = calls;
        calls = new ArrayList<>();
        return all;
    }

    // PACKAGES 0 and 1 of MODULE 0, 2 of 1, 3 of 2; TYPE 8 has all its FACES.
    private static List<int[]> someOfEach() {
        add(Calls.MODULE);
        add(Calls.MODULE);
        for (int m = 0; m < 3; m++) {
            add(Calls.PACK, m);
        }
        add(Calls.READS, 1, 2);
        add(Calls.EXPORT, 3, 1);
        add(Calls.EXPORT, 1, -1);
        int[][] types = {{1, -1, 0, 3, 4}, {1, -1, 1, 3, 0}, {1, -1, 1, 1, 0}, {1, 1, 0, 0, 1},
            {3, -1, 0, 3, 0}, {3, -1, 0, 3, 2}, {1, 2, 1, 3, 1}, {0, -1, 0, 3, 0}, {0, -1, 1, 3, 0},
            {2, -1, 0, 3, 0}, {1, 4, 0, 2, 0}};
        for (int[] t : types) {
            add(Calls.TYPE, t[0], t[1], t[2], t[3], t[4]);
        }
        int[][] parents = {{5, 1}, {10, 5}, {4, 6}};
        for (int[] p : parents) {
            add(Calls.PARENT, p[0], p[1]);
        }
        int[][] faces = {{9, 2}, {8, 2}, {8, 3}, {8, 7}, {8, 9}, {3, 7}, {5, 9}};
        for (int[] f : faces) {
            add(Calls.FACE, f[0], f[1]);
        }
        int[][] members = {{1, 1, 0, 1, 4}, {1, 1, 1, 2, 0}, {5, 1, 0, 3, 0}, {10, 1, 1, 3, 0},
            {2, 1, 2, 3, 0}, {9, 1, 2, 3, 4}, {3, 1, 2, 3, 0}, {7, 0, 0, 3, 1}, {9, 0, 0, 3, 1},
            {1, 2, 0, 2, 0}, {6, 2, 0, 3, 0}, {0, 1, 1, 3, 2}, {4, 0, 1, 0, 0}, {2, 1, 1, 3, 1}};
        for (int[] m : members) {
            add(Calls.MEMBER, m[0], m[1], m[2], m[3], m[4]);
        }
        return taken();
    }

    private static List<int[]> full() {
        for (int n = 1; n <= 9; n++) {
            if (n < 6) {
                add(Calls.MODULE);
            }
            add(Calls.PACK, n % 3);
        }
        for (int t = 1; t <= 39; t++) {
            add(Calls.TYPE, t % 10, -1, t % 4 == 3 ? 1 : 0, 3, 0);
        }
        for (int t = 4; t <= 39; t++) {
            add(t % 4 == 3 ? Calls.FACE : Calls.PARENT, t,
                    t % 4 == 3 ? t - 4 : t % 4 == 0 ? t - 2 : t - 1);
        }
        for (int t = 5; t <= 39; t += 4) {
            add(Calls.FACE, t, t - 2);
        }
        for (int m = 0; m < 120; m++) {
            boolean isOfInterface = m / 10 % 4 == 3;
            add(Calls.MEMBER, m / 10, 1, m % 10, isOfInterface ? 3 : 1 + m % 3, 0);
        }
        return taken();
    }

    /** All questions about numbers up to the given ones, which are those that there are. */
    private static List<int[]> questions(int types, int members, int names) {
        for (int n = 0; n < 4; n++) {
            add(Calls.COUNT, n);
        }
        for (int t = 0; t <= types; t++) {
            for (int what = 0; what <= 6; what++) {
                add(Calls.ABOUT, t, what);
            }
            add(Calls.CHECK, t);
            for (int i = 0; i < 8; i++) {
                add(Calls.FAULT, t, i / 2, i % 2);
            }
            for (int u = 0; u <= types; u++) {
                add(Calls.BELOW, t, u);
                add(Calls.OPEN, t, u);
                addUses(t, u, names);
            }
            for (int m = 0; m <= members; m++) {
                add(Calls.OF, t, m);
                add(Calls.CHOOSE, m, t);
            }
        }
        for (int d = 0; d <= members; d++) {
            for (int a = 0; a <= members; a++) {
                add(Calls.OVERRIDES, d, a);
            }
        }
        return taken();
    }

    private static void addUses(int f, int q, int names) {
        for (int name = 0; name < names; name++) {
            for (int how = 0; how < 4; how++) {
                add(Calls.USE, f, how, q, 0, name);
                add(Calls.USE, f, how, q, 1, name);
                if (how < 3) {
                    add(Calls.MAKE, f, how, q, name);
                }
            }
        }
    }

    /** Calls that change much, so that they show what was there before. */
    private static List<List<int[]>> changes(int types) {
        List<List<int[]>> all = new ArrayList<>();
        for (int m = 0; m <= 6; m++) {
            for (int n = -1; n <= 6; n++) {
                add(Calls.READS, m, n);
                add(Calls.EXPORT, m, n);
            }
        }
        all.add(taken());
        add(Calls.MODULE);
        add(Calls.PACK, 0);
        add(Calls.TYPE, 0, -1, 1, 3, 0);
        add(Calls.TYPE, 0, 0, 0, 0, 0);
        for (int t = 0; t <= types; t++) {
            add(Calls.MEMBER, t, 0, 5, 3, 1);
            add(Calls.MEMBER, t, 1, 1, 3, 0);
            add(Calls.MEMBER, t, 2, 0, 3, 0);
        }
        all.add(taken());
        for (int op = Calls.PARENT; op <= Calls.FACE; op++) {
            for (int n = 0; n < 220; n++) {
                add(op, n % (types + 1), n * 7 / (types + 1) % (types + 1));
            }
            all.add(taken());
        }
        return all;
    }

    private static void look(List<int[]> start, List<int[]> questions, List<List<int[]>> changes) {
        world = new ArrayList<>();
        for (int[] call : start) {
            doc.at(call[0] + 2, "What is refused changes nothing.");
            doc.is(Calls.text(call) + " is taken", answer(call) < 0 ? 0 : 1, 1);
            world.add(call);
        }
        pieces = new ArrayList<>(changes);
        for (int from = 0; from < questions.size(); from += LATER) {
            pieces.add(questions.subList(from, Math.min(from + LATER, questions.size())));
        }
        answersDue = new ArrayList<>();
        for (List<int[]> piece : pieces) {
            answersDue.add(answers(piece, new ArrayList<>()));
        }
    }

    private static int[] answers(List<int[]> piece, List<int[]> before) {
        AccessJudge x = new AccessJudge();
        for (int[] call : world) {
            Calls.run(x, call);
        }
        for (int[] call : before) {
            Calls.run(x, call);
        }
        int[] got = new int[piece.size()];
        for (int i = 0; i < got.length; i++) {
            got[i] = Calls.run(x, piece.get(i));
        }
        return got;
    }

    private static int answer(int... call) {
        return answers(Arrays.asList(new int[][] {call}), new ArrayList<>())[0];
    }

    /** Those of the calls that are refused, or that ask and so change nothing, either. */
    private static List<int[]> withoutChange(List<int[]> all) {
        List<int[]> kept = new ArrayList<>();
        for (int[] call : all) {
            if (call[0] >= Calls.COUNT || answer(call) < 0) {
                kept.add(call);
            }
        }
        return kept;
    }

    private static void changeNothing(List<int[]> all) {
        List<int[]> refused = withoutChange(all);
        int atOnce = Calls.MOST - LATER - world.size();
        doc.is("calls that are refused, at least", refused.isEmpty() ? 0 : 1, 1);
        for (int from = 0; from < refused.size(); from += atOnce) {
            List<int[]> batch = refused.subList(from, Math.min(from + atOnce, refused.size()));
            for (int p = 0; p < pieces.size(); p++) {
                hold(batch, pieces.get(p), answersDue.get(p));
            }
        }
    }

    private static void hold(List<int[]> batch, List<int[]> piece, int[] due) {
        int[] got = answers(piece, batch);
        int[] first = batch.get(0);
        doc.at(first[0] + 2, "What is refused changes nothing.");
        for (int i = 0; i < due.length; i++) {
            if (got[i] != due[i]) {
                doc.is(Calls.text(piece.get(i)) + " after " + blame(batch, piece, due), got[i],
                        due[i]);
                return;
            }
        }
        doc.is("as many as are due", got.length, due.length);
    }

    private static String blame(List<int[]> batch, List<int[]> piece, int[] due) {
        for (int[] call : batch) {
            if (!Arrays.equals(answers(piece, List.of(call)), due)) {
                return Calls.text(call);
            }
        }
        return batch.size() + " calls from " + Calls.text(batch.get(0)) + " on";
    }

    /** The calls of one sort with each of the numbers for each of its arguments. */
    private static List<int[]> each(int op, int[]... numbers) {
        List<int[]> all = new ArrayList<>();
        all.add(new int[] {op});
        for (int[] argument : numbers) {
            List<int[]> longer = new ArrayList<>();
            for (int[] call : all) {
                for (int n : argument) {
                    int[] more = Arrays.copyOf(call, call.length + 1);
                    more[call.length] = n;
                    longer.add(more);
                }
            }
            all = longer;
        }
        return all;
    }

    private static void manySorts() {
        look(someOfEach(), questions(11, 13, 3), changes(12));
        int[] modules = {LEAST, -2, -1, 0, 1, 2, 3, 32, 33, MOST};
        int[] packs = {LEAST, -1, 0, 1, 3, 4, 33, MOST};
        int[] types = {LEAST, -1, 0, 1, 2, 3, 4, 5, 6, 7, 8, 9, 10, 11, 12, 64, 65, MOST};
        int[] few = {-1, 0, 1, 2, 8, 12};
        int[] accesses = {-1, 0, 1, 2, 3, 4};
        int[] flags = {-1, 0, 1, 2, 3, 4, 5, 6, 7, 8};
        changeNothing(each(Calls.READS, modules, modules));
        changeNothing(each(Calls.PACK, modules));
        changeNothing(each(Calls.EXPORT, packs, modules));
        changeNothing(each(Calls.TYPE, new int[] {-1, 0, 1, 4}, new int[] {-2, -1, 0, 1, 2, 12},
                new int[] {-1, 0, 1, 2}, accesses, flags));
        changeNothing(each(Calls.PARENT, types, types));
        changeNothing(each(Calls.FACE, types, types));
        changeNothing(each(Calls.MEMBER, few, new int[] {-1, 0, 1, 2, 3}, new int[] {-1, 0, 9, 10},
                accesses, flags));
        questionsChangeNothing();
    }

    private static void questionsChangeNothing() {
        int[] types = {LEAST, -1, 0, 1, 5, 8, 11, 12, 64, MOST};
        int[] members = {LEAST, -1, 0, 1, 3, 7, 9, 13, 14, MOST};
        int[] hows = {-1, 0, 1, 2, 3, 4};
        int[] names = {-1, 0, 1, 10};
        changeNothing(each(Calls.COUNT, types));
        changeNothing(each(Calls.ABOUT, types, new int[] {LEAST, -1, 0, 3, 5, 6, 7, MOST}));
        changeNothing(each(Calls.BELOW, types, types));
        changeNothing(each(Calls.OPEN, types, types));
        changeNothing(each(Calls.OF, types, members));
        changeNothing(each(Calls.USE, new int[] {-1, 0, 10, 11, 12}, hows,
                new int[] {-1, 0, 1, 8, 12}, new int[] {-1, 0, 1, 2}, names));
        changeNothing(each(Calls.MAKE, new int[] {-1, 0, 10, 12}, hows, new int[] {-1, 1, 6, 12},
                names));
        changeNothing(each(Calls.OVERRIDES, members, members));
        changeNothing(each(Calls.CHOOSE, members, types));
        changeNothing(each(Calls.CHECK, types));
        changeNothing(each(Calls.FAULT, types, new int[] {LEAST, -1, 0, 1, 9, MOST},
                new int[] {-1, 0, 1, 2}));
    }

    private static void asManyAsThereMayBe() {
        look(full(), questions(39, 119, 1), changes(39));
        int[] types = {0, 1, 3, 20, 39};
        changeNothing(each(Calls.MODULE));
        changeNothing(each(Calls.PACK, new int[] {0, 1, 5, 6}));
        changeNothing(each(Calls.TYPE, new int[] {0, 1, 9}, new int[] {-1, 0, 39},
                new int[] {0, 1}, new int[] {1, 3}, new int[] {0, 1}));
        changeNothing(each(Calls.MEMBER, types, new int[] {0, 1, 2}, new int[] {0, 9},
                new int[] {1, 3}, new int[] {0, 1}));
    }

    private static void nothingYet() {
        look(new ArrayList<>(), questions(1, 1, 2), changes(1));
        int[] numbers = {LEAST, -2, -1, 0, 1, 2, 32, 64, MOST};
        int[] few = {-1, 0, 1, 4};
        changeNothing(each(Calls.READS, numbers, numbers));
        changeNothing(each(Calls.PACK, numbers));
        changeNothing(each(Calls.EXPORT, numbers, numbers));
        changeNothing(each(Calls.TYPE, numbers, numbers, few, few, few));
        changeNothing(each(Calls.PARENT, numbers, numbers));
        changeNothing(each(Calls.FACE, numbers, numbers));
        changeNothing(each(Calls.MEMBER, numbers, few, numbers, few, few));
        changeNothing(each(Calls.OF, numbers, numbers));
        changeNothing(each(Calls.CHOOSE, numbers, numbers));
        changeNothing(each(Calls.OVERRIDES, numbers, numbers));
        changeNothing(each(Calls.FAULT, numbers, numbers, few));
    }

    // Each call that is taken has three before it that are refused.
    private static void betweenTheCalls() {
        List<int[]> plain = someOfEach();
        look(plain, questions(11, 13, 3), changes(12));
        int[][] refused = {{Calls.READS, 0, -1}, {Calls.READS, 6, 0}, {Calls.PACK, -1},
            {Calls.EXPORT, 0, -2}, {Calls.EXPORT, 9, -1}, {Calls.TYPE, 0, -1, 0, 0, 0},
            {Calls.TYPE, 0, -1, 1, 3, 2}, {Calls.TYPE, 0, 0, 1, 3, 0}, {Calls.TYPE, 0, 39, 0, 3, 0},
            {Calls.PARENT, 0, 0}, {Calls.PARENT, 39, 0}, {Calls.FACE, 0, 0}, {Calls.FACE, 39, 0},
            {Calls.MEMBER, 0, 1, 2, 3, 4}, {Calls.MEMBER, 0, 2, 2, 3, 1},
            {Calls.MEMBER, 0, 0, 10, 3, 0}, {Calls.MEMBER, 39, 0, 0, 3, 0}};
        world = new ArrayList<>();
        int next = 0;
        for (int[] call : plain) {
            for (int n = 0; n < 3; n++) {
                int[] bad = refused[next++ % refused.length];
                doc.at(bad[0] + 2, "What is refused changes nothing.");
                doc.is(Calls.text(bad) + " is refused", answer(bad) < 0 ? 1 : 0, 1);
                world.add(bad);
            }
            world.add(call);
        }
        for (int p = 0; p < pieces.size(); p++) {
            hold(List.of(new int[] {Calls.COUNT, -1}), pieces.get(p), answersDue.get(p));
        }
    }
    // MEMBERS come with their DECLARERS, so that each later TYPE, PARENT and FACE brings some.
    private static List<int[]> membersAheadOfTypes() {
        List<int[]> plain = someOfEach();
        List<int[]> all = new ArrayList<>();
        all.add(new int[] {Calls.MEMBER, 0, 0, 2, 3, 0});
        all.add(new int[] {Calls.MEMBER, 0, 1, 1, 3, 2});
        int types = 1;
        for (int[] call : plain) {
            if (call[0] != Calls.MEMBER) {
                all.add(call);
            }
            for (int[] member : plain) {
                if (call[0] == Calls.TYPE && member[0] == Calls.MEMBER && member[1] == types) {
                    all.add(member);
                }
            }
            types += call[0] == Calls.TYPE ? 1 : 0;
        }
        return all;
    }

    /** Whoever is asked ahead of a change answers afterwards as one that was not. */
    private static void askedAheadOfEachCall(List<int[]> plain) {
        List<int[]> later = questions(11, 14, 3);
        for (int t = 0; t <= 11; t++) {
            add(Calls.ABOUT, t, 5);
            add(Calls.CHECK, t);
            add(Calls.OVERRIDES, t, t + 1);
            add(Calls.CHOOSE, t, 8);
        }
        List<int[]> asked = taken();
        for (int n = 0; n < plain.size(); n++) {
            doc.at(plain.get(n)[0] + 2, "Nothing is promised beyond the answers and state changes "
                    + "described above");
            for (int from = 0; from < later.size(); from += LATER) {
                List<int[]> piece = later.subList(from, Math.min(from + LATER, later.size()));
                world = plain.subList(0, n + 1);
                int[] due = answers(piece, new ArrayList<>());
                world = new ArrayList<>(plain.subList(0, n));
                world.addAll(asked);
                int[] got = answers(piece, List.of(plain.get(n)));
                for (int i = 0; i < due.length; i++) {
                    doc.is(Calls.text(piece.get(i)) + ", asked before call " + n + ", "
                            + Calls.text(plain.get(n)), got[i], due[i]);
                }
            }
        }
    }
}
