import java.util.ArrayList;
import java.util.EnumMap;
import java.util.List;
import java.util.Map;

/**
 * "WHAT IS THROWN": each call in each state, with numbers that are right and with each kind of wrong
 * ones. A wrong number is an IllegalArgumentException in every state, also where the state alone would
 * be an IllegalStateException; and a call that throws does nothing.
 */
public final class RefusedTest {
    private static final int[] NO_FORMS = {-1, -2, Integer.MIN_VALUE, Integer.MAX_VALUE};
    private static final int[] NOT_WHOLE = {Furnished.BODY, Furnished.VARIABLE};
    private static final int[] FORMULAS = {Furnished.A, Furnished.P_OF_LOCUS, Furnished.ALL};
    private static final int[] TERMS = {Furnished.C, Furnished.LOCUS_0, Furnished.LOCUS_1};
    private static final int[] LOCI = {Furnished.LOCUS_0, Furnished.LOCUS_1};
    private static final int[] WITH_LOCI = {Furnished.P_OF_LOCUS, Furnished.Q_OF_LOCI};
    private static final int C = Furnished.C;
    private static final int A = Furnished.A;
    private static final int B = Furnished.P_OF_C;

    private interface Call {
        void on(ThesisDesk desk);
    }

    /** One call; `due` has for each state t (it is taken) or s (IllegalStateException), in their order. */
    private record Right(String name, String due, Call call) {
    }

    private record Wrong(String name, Call call) {
    }

    private final Map<Furnished, String> told = new EnumMap<>(Furnished.class);
    private final List<Wrong> wrongs = new ArrayList<>();

    public static void main(String[] args) {
        furniture();
        RefusedTest test = new RefusedTest();
        for (Furnished state : Furnished.values()) {
            test.told.put(state, Told.of(state.desk()));
        }
        test.rightNumbers();
        test.addWrongNumbers();
        test.wrongNumbers();
        Check.finish();
    }

    /** The numbers that these tests use are what their names say. */
    private static void furniture() {
        ThesisDesk desk = Furnished.NONE_OPEN.desk();
        int[] kinds = {0, 0, 1, 1, 5, 5, 4, 3, 6, 5, 5, 8, 5, 2, 7};
        for (int x = 0; x < kinds.length; x++) {
            Check.due("kind of form " + x, desk.about(x, 0), kinds[x]);
        }
        Check.due("SIZE of the large form", desk.about(Furnished.LARGE, 2), 100);
        Check.due("it is the last one", desk.count(0), Furnished.LARGE + 1);
        for (Furnished state : Furnished.values()) {
            Check.due("blocks of " + state, state.desk().count(2) == 40, state.name().startsWith("FORTY"));
            Check.due("forms of " + state, state.desk().count(0) == 1000, state.isFullOfForms());
        }
    }

    // ---- right numbers, each state ----

    private void rightNumbers() {
        // The states: none, proof, now, case, two that wait; of 40 proof, now, case, waiting;
        // 30 predicates; of 1000 proof, now, waiting.
        String always = "tttttt" + "tttt" + "t" + "ttt";
        String form = "tttttt" + "tttt" + "t" + "sss";
        String block = "ttttss" + "ssss" + "t" + "tts";
        String step = "stttss" + "ttts" + "s" + "tts";
        String notInNow = "ststss" + "tsts" + "s" + "tss";
        Right[] rights = {
            new Right("predicate(0)", "tttttt" + "tttt" + "s" + "ttt", x -> x.predicate(0)),
            new Right("define(1, f)", always, x -> x.define(Furnished.P, Furnished.P_OF_LOCUS)),
            new Right("constant()", form, ThesisDesk::constant),
            new Right("locus(0)", form, x -> x.locus(0)),
            new Right("atom(0, -1, -1)", form, x -> x.atom(Furnished.NULLARY, -1, -1)),
            new Right("join(0, f, -1)", form, x -> x.join(0, A, -1)),
            new Right("bind(false, c, f)", form, x -> x.bind(false, C, A)),
            new Right("proof(f)", block, x -> x.proof(A)),
            new Right("now()", block, ThesisDesk::now),
            new Right("let()", "stttss" + "ttts" + "s" + "sss", ThesisDesk::let),
            new Right("fit()", always, ThesisDesk::fit),
            new Right("assume(f)", step, x -> x.assume(A)),
            new Right("thus(f)", step, x -> x.thus(A)),
            new Right("take(t)", notInNow, x -> x.take(C)),
            new Right("given(c, f)", step, x -> x.given(C, B)),
            new Right("cases()", notInNow, ThesisDesk::cases),
            new Right("suppose(f)", "sssstt" + "ssss" + "s" + "sst", x -> x.suppose(A)),
            new Right("end()", "sttttt" + "tttt" + "s" + "tst", ThesisDesk::end),
            new Right("thesis()", "sttttt" + "tttt" + "s" + "sss", ThesisDesk::thesis),
            new Right("ways()", "sssstt" + "ssst" + "s" + "sss", ThesisDesk::ways),
            new Right("about(x, 0)", always, x -> x.about(Furnished.BODY, 0)),
            new Right("part(x, 0)", form, x -> x.part(Furnished.BODY, 0)),
            new Right("alike(x, y)", always, x -> x.alike(Furnished.BODY, Furnished.BODY)),
            new Right("count(0)", always, x -> x.count(0)),
            new Right("NOT of SIZE 100", "ssssss" + "ssss" + "s" + "sss", x -> x.join(0, Furnished.LARGE, -1)),
            new Right("ALL of SIZE 100", "ssssss" + "ssss" + "s" + "sss", x -> x.bind(false, C, Furnished.LARGE)),
        };
        for (Right right : rights) {
            for (Furnished state : Furnished.values()) {
                rightNumbers(right, state);
            }
        }
    }

    private void rightNumbers(Right right, Furnished state) {
        if (right.due.charAt(state.ordinal()) == 't') {
            Check.due(right.name + " in " + state + " throws", throwing(right.call, state.desk()) == null, true);
        } else {
            refused(right.name, state, right.call, IllegalStateException.class);
        }
    }

    // ---- wrong numbers, in every state ----

    private void wrongNumbers() {
        Check.due("wrong calls are many", wrongs.size() > 250, true);
        for (Wrong wrong : wrongs) {
            for (Furnished state : Furnished.values()) {
                refused(wrong.name, state, wrong.call, IllegalArgumentException.class);
            }
        }
    }

    private void wrong(String name, Call call) {
        wrongs.add(new Wrong(name, call));
    }

    private void addWrongNumbers() {
        for (int n : new int[] {-1, 3, Integer.MIN_VALUE, Integer.MAX_VALUE}) {
            wrong("predicate(" + n + ")", x -> x.predicate(n));
        }
        for (int n : new int[] {-1, 2, Integer.MIN_VALUE, Integer.MAX_VALUE}) {
            wrong("locus(" + n + ")", x -> x.locus(n));
        }
        for (int n : new int[] {-1, 5, Integer.MIN_VALUE, Integer.MAX_VALUE}) {
            wrong("count(" + n + ")", x -> x.count(n));
        }
        addForDefine();
        addForAtom();
        addForJoin();
        addForBind();
        addForBlocks();
        addForQuestions();
    }

    private void addForDefine() {
        for (int p : new int[] {-1, 30, Integer.MIN_VALUE, Integer.MAX_VALUE}) {
            wrong("define(" + p + ", f)", x -> x.define(p, A));
        }
        wrong("define(count, f)", x -> x.define(x.count(1), A));
        for (int f : both(NO_FORMS, NOT_WHOLE, TERMS)) {
            wrong("define(2, " + f + ")", x -> x.define(Furnished.Q, f));
        }
        wrong("define(2, count)", x -> x.define(Furnished.Q, x.count(0)));
        for (int f : WITH_LOCI) {
            wrong("define(0, loci)", x -> x.define(Furnished.NULLARY, f));
        }
        wrong("define(1, locus 1)", x -> x.define(Furnished.P, Furnished.Q_OF_LOCI));
        wrong("define(-1, none)", x -> x.define(-1, -1));
    }

    private void addForAtom() {
        for (int p : new int[] {-2, 30, Integer.MIN_VALUE, Integer.MAX_VALUE}) {
            wrong("atom(" + p + ", ..)", x -> x.atom(p, C, C));
            wrong("atom(" + p + ", none)", x -> x.atom(p, -1, -1));
        }
        wrong("atom(count, ..)", x -> x.atom(x.count(1), C, C));
        for (int t : both(NO_FORMS, NOT_WHOLE, FORMULAS)) {
            wrong("atom(-1, " + t + ", t)", x -> x.atom(-1, t, C));
            wrong("atom(-1, s, " + t + ")", x -> x.atom(-1, C, t));
            wrong("atom(1, " + t + ", -1)", x -> x.atom(Furnished.P, t, -1));
            wrong("atom(2, " + t + ", t)", x -> x.atom(Furnished.Q, t, C));
            wrong("atom(2, s, " + t + ")", x -> x.atom(Furnished.Q, C, t));
        }
        wrong("atom(-1, count, t)", x -> x.atom(-1, x.count(0), C));
        wrong("atom(2, s, count)", x -> x.atom(Furnished.Q, C, x.count(0)));
        for (int t : new int[] {C, A, -2, Integer.MIN_VALUE, Integer.MAX_VALUE}) {
            wrong("atom(0, " + t + ", -1)", x -> x.atom(Furnished.NULLARY, t, -1));
            wrong("atom(0, -1, " + t + ")", x -> x.atom(Furnished.NULLARY, -1, t));
            wrong("atom(1, s, " + t + ")", x -> x.atom(Furnished.P, C, t));
        }
        wrong("atom(1, -1, t)", x -> x.atom(Furnished.P, -1, C));
    }

    private void addForJoin() {
        for (int kind : new int[] {-1, 6, Integer.MIN_VALUE, Integer.MAX_VALUE}) {
            wrong("join(" + kind + ", f, g)", x -> x.join(kind, A, A));
            wrong("join(" + kind + ", f, -1)", x -> x.join(kind, A, -1));
            wrong("join(" + kind + ", -1, -1)", x -> x.join(kind, -1, -1));
        }
        for (int f : both(NO_FORMS, NOT_WHOLE, TERMS)) {
            wrong("join(0, " + f + ", -1)", x -> x.join(0, f, -1));
            for (int kind = 1; kind <= 4; kind++) {
                int k = kind;
                wrong("join(" + k + ", " + f + ", g)", x -> x.join(k, f, A));
                wrong("join(" + k + ", f, " + f + ")", x -> x.join(k, A, f));
            }
        }
        wrong("join(0, count, -1)", x -> x.join(0, x.count(0), -1));
        wrong("join(1, f, count)", x -> x.join(1, A, x.count(0)));
        for (int f : new int[] {C, A, -2, Integer.MIN_VALUE, Integer.MAX_VALUE}) {
            wrong("join(0, f, " + f + ")", x -> x.join(0, A, f));
            wrong("join(5, " + f + ", -1)", x -> x.join(5, f, -1));
            wrong("join(5, -1, " + f + ")", x -> x.join(5, -1, f));
        }
        wrong("too large and a wrong number", x -> x.join(1, Furnished.LARGE, C));
        wrong("NOT of too large and a wrong number", x -> x.join(0, Furnished.LARGE, A));
    }

    private void addForBind() {
        for (boolean some : new boolean[] {false, true}) {
            for (int c : both(NO_FORMS, NOT_WHOLE, LOCI, FORMULAS)) {
                wrong("bind(" + some + ", " + c + ", f)", x -> x.bind(some, c, B));
                wrong("bind(" + some + ", " + c + ", large)", x -> x.bind(some, c, Furnished.LARGE));
            }
            for (int f : both(NO_FORMS, NOT_WHOLE, TERMS)) {
                wrong("bind(" + some + ", c, " + f + ")", x -> x.bind(some, C, f));
            }
            wrong("bind(" + some + ", count, f)", x -> x.bind(some, x.count(0), B));
            wrong("bind(" + some + ", c, count)", x -> x.bind(some, C, x.count(0)));
        }
    }

    private void addForBlocks() {
        for (int f : both(NO_FORMS, NOT_WHOLE, TERMS, WITH_LOCI)) {
            wrong("proof(" + f + ")", x -> x.proof(f));
            wrong("assume(" + f + ")", x -> x.assume(f));
            wrong("thus(" + f + ")", x -> x.thus(f));
            wrong("given(c, " + f + ")", x -> x.given(C, f));
            wrong("suppose(" + f + ")", x -> x.suppose(f));
        }
        wrong("proof(count)", x -> x.proof(x.count(0)));
        wrong("assume(count)", x -> x.assume(x.count(0)));
        wrong("thus(count)", x -> x.thus(x.count(0)));
        wrong("given(c, count)", x -> x.given(C, x.count(0)));
        wrong("suppose(count)", x -> x.suppose(x.count(0)));
        for (int t : both(NO_FORMS, NOT_WHOLE, LOCI, FORMULAS)) {
            wrong("take(" + t + ")", x -> x.take(t));
            wrong("given(" + t + ", f)", x -> x.given(t, B));
        }
        wrong("take(count)", x -> x.take(x.count(0)));
        wrong("given(count, f)", x -> x.given(x.count(0), B));
    }

    private void addForQuestions() {
        for (int n : NO_FORMS) {
            for (int what = -1; what <= 4; what++) {
                int w = what;
                wrong("about(" + n + ", " + w + ")", x -> x.about(n, w));
            }
            wrong("part(" + n + ", 0)", x -> x.part(n, 0));
            wrong("alike(" + n + ", y)", x -> x.alike(n, A));
            wrong("alike(x, " + n + ")", x -> x.alike(A, n));
            wrong("part(AND, " + n + ")", x -> x.part(Furnished.BOTH, n));
        }
        wrong("about(count, 0)", x -> x.about(x.count(0), 0));
        wrong("part(count, 0)", x -> x.part(x.count(0), 0));
        wrong("alike(count, y)", x -> x.alike(x.count(0), A));
        wrong("alike(x, count)", x -> x.alike(A, x.count(0)));
        int[][] behind = {
            {C, 0}, {Furnished.LOCUS_1, 0}, {Furnished.VARIABLE, 0}, {Furnished.TRUE, 0}, {A, 0}, {B, 1},
            {Furnished.C_IS_D, 2}, {Furnished.Q_OF_LOCI, 2}, {Furnished.NOT_TRUE, 1}, {Furnished.BOTH, 2},
            {Furnished.ALL, 1}, {Furnished.LARGE, 99},
        };
        for (int[] part : behind) {
            wrong("part(" + part[0] + ", " + part[1] + ")", x -> x.part(part[0], part[1]));
        }
    }

    // ---- a call that throws does nothing ----

    private void refused(String name, Furnished state, Call call, Class<?> want) {
        ThesisDesk desk = state.desk();
        Class<?> got = throwing(call, desk);
        Check.due(name + " in " + state + " throws", String.valueOf(got), String.valueOf(want));
        Check.due(name + " in " + state + ", what is told then", Told.of(desk), told.get(state));
    }

    private static Class<?> throwing(Call call, ThesisDesk desk) {
        try {
            call.on(desk);
            return null;
        } catch (RuntimeException e) {
            return e.getClass();
        }
    }

    private static int[] both(int[]... rows) {
        List<Integer> all = new ArrayList<>();
        for (int[] row : rows) {
            for (int x : row) {
                all.add(x);
            }
        }
        return all.stream().mapToInt(Integer::intValue).toArray();
    }
}
