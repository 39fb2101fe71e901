import java.util.function.BooleanSupplier;

/** Edges of when a step FITS, of what it leaves and of OPENING: Terms 2 and promises 11 to 16. */
public final class StepEdgesTest extends Make {
    public static void main(String[] args) {
        letOfAll();
        letOfOthers();
        assumeFirstParts();
        assumeOfOtherParts();
        assumeNotOfIt();
        thusFirstParts();
        thusOfOtherParts();
        thusAlike();
        takeOfNotAll();
        takeOfOthers();
        givenAsAssume();
        givenOfLarge();
        alikeButForNames();
        fitOfTheLatest();
        openedOnlyIfNot();
        openedTillItFits();
        openedItselfAlone();
        openedWithItsTerms();
        openedInCircles();
        openedToTrue();
        openedLarge();
        for (Opened opened : Opened.values()) {
            twentyTimes(opened, false);
            twentyTimes(opened, true);
        }
        Check.finish();
    }

    // ---- helpers ----

    /** The step FITS a new proof's thesis, and leaves this. */
    private static void fits(ThesisDesk desk, String name, int thesis, BooleanSupplier step, int left) {
        int misfits = desk.count(3);
        desk.proof(thesis);
        Check.due(name, step.getAsBoolean(), true);
        Check.due(name + ": fit()", desk.fit(), true);
        Check.due(name + ": count(3)", desk.count(3), misfits);
        dueForm(desk, name + ": what it leaves", desk.thesis(), left);
        Check.due(name + ": end()", desk.end(), desk.about(left, 0) == 3 ? 1 : 0);
    }

    /** The step does not FIT a new proof's thesis: that stays as it was. */
    private static void misfits(ThesisDesk desk, String name, int thesis, BooleanSupplier step) {
        int misfits = desk.count(3);
        desk.proof(thesis);
        Check.due(name, step.getAsBoolean(), false);
        Check.due(name + ": fit()", desk.fit(), false);
        Check.due(name + ": count(3)", desk.count(3), misfits + 1);
        dueForm(desk, name + ": the thesis stays", desk.thesis(), thesis);
        Check.due(name + ": end()", desk.end(), desk.about(thesis, 0) == 3 ? 1 : 0);
    }

    private static boolean let(ThesisDesk desk) {
        int constants = desk.count(4);
        int forms = desk.count(0);
        Check.due("let() gives the next form", desk.let(), forms);
        Check.due("let() makes a constant", desk.count(4), constants + 1);
        Check.due("its kind", desk.about(forms, 0), 0);
        return desk.fit();
    }

    private static int some(ThesisDesk desk, int c, int f) {
        return desk.bind(true, c, f);
    }

    private static int all(ThesisDesk desk, int c, int f) {
        return desk.bind(false, c, f);
    }

    // ---- "LET: it is an ALL: what it speaks of with a new constant put in." ----

    private static void letOfAll() {
        ThesisDesk desk = new ThesisDesk();
        int c = desk.constant();
        int d = desk.constant();
        int p = desk.predicate(2);
        int a = nullary(desk);
        desk.proof(all(desk, c, desk.atom(p, c, d)));
        int e = desk.let();
        Check.due("let() FITS", desk.fit(), true);
        dueLeft(desk, "the new constant stands in it", desk.atom(p, e, d));
        desk.proof(all(desk, c, all(desk, d, and(desk, desk.atom(p, c, d), all(desk, c, desk.atom(p, c, d))))));
        int one = desk.let();
        int two = desk.let();
        Check.due("a second let() FITS", desk.fit(), true);
        dueLeft(desk, "each in its place", and(desk, desk.atom(p, one, two), all(desk, c, desk.atom(p, c, two))));
        fits(desk, "an ALL of nothing", all(desk, c, a), () -> let(desk), a);
        int n = not(desk, truth(desk));
        fits(desk, "an ALL of NOT TRUE", all(desk, c, n), () -> let(desk), n);
        int large = all(desk, c, andOfSize(desk, a, 99));
        fits(desk, "an ALL of SIZE 100", large, () -> let(desk), desk.part(large, 0));
    }

    /** "LET: the new constant, a FORM in any case." */
    private static void letOfOthers() {
        ThesisDesk desk = new ThesisDesk();
        int c = desk.constant();
        int p = desk.predicate(1);
        int f = desk.atom(p, c, NONE);
        int[] others = {
            f, truth(desk), not(desk, truth(desk)), desk.atom(-1, c, c), not(desk, all(desk, c, f)),
            and(desk, all(desk, c, f), f),
        };
        for (int thesis : others) {
            misfits(desk, "let() of kind " + desk.about(thesis, 0), thesis, () -> let(desk));
        }
        desk.now();
        Check.due("let() in a NOW", let(desk), true);
    }

    // ---- "ASSUME A: it is NOT AND of f1 .. fn, and A's parts .. are ALIKE f1 .. fk" ----

    private static void assumeFirstParts() {
        ThesisDesk desk = new ThesisDesk();
        int a = nullary(desk);
        int b = nullary(desk);
        int c = nullary(desk);
        int ab = and(desk, a, b);
        int bc = and(desk, b, c);
        int abc = and(desk, ab, c);
        int thesis = not(desk, abc);
        int contrary = not(desk, truth(desk));
        fits(desk, "one of three", thesis, () -> desk.assume(a), not(desk, bc));
        fits(desk, "two of three: one left", thesis, () -> desk.assume(ab), not(desk, c));
        fits(desk, "three of three: none left", thesis, () -> desk.assume(abc), contrary);
        fits(desk, "one of two: one left", not(desk, ab), () -> desk.assume(a), not(desk, b));
        fits(desk, "two of two: none left", not(desk, ab), () -> desk.assume(ab), contrary);
        fits(desk, "one left that is a NOT", implies(desk, a, b), () -> desk.assume(a), b);
        fits(desk, "one left that is NOT AND", implies(desk, a, bc), () -> desk.assume(a), not(desk, not(desk, bc)));
        int notA = not(desk, a);
        fits(desk, "a first part that is a NOT", desk.join(2, a, b), () -> desk.assume(notA), b);
        int large = not(desk, andOfSize(desk, a, 99));
        fits(desk, "one of 98", large, () -> desk.assume(a), not(desk, andOfSize(desk, a, 98)));
        int most = many(desk, a, 97);
        fits(desk, "97 of 98", large, () -> desk.assume(most), notA);
    }

    private static void assumeOfOtherParts() {
        ThesisDesk desk = new ThesisDesk();
        int a = nullary(desk);
        int b = nullary(desk);
        int c = nullary(desk);
        int d = nullary(desk);
        int abc = and(desk, and(desk, a, b), c);
        int[] others = {
            b, c, d, and(desk, b, a), and(desk, a, c), and(desk, b, c), and(desk, a, d), and(desk, abc, d),
            and(desk, abc, a), truth(desk), not(desk, truth(desk)), not(desk, a), not(desk, abc),
        };
        for (int f : others) {
            misfits(desk, "assume form " + f, not(desk, abc), () -> desk.assume(f));
        }
        // Made just before the step, so that nothing of it may be left over where the step works.
        misfits(desk, "a part more than there are", not(desk, abc), () -> desk.assume(and(desk, abc, d)));
        misfits(desk, "the first part of an AND", abc, () -> desk.assume(a));
        misfits(desk, "an AND itself", abc, () -> desk.assume(abc));
    }

    /** "or A is ALIKE NOT of it: NOT TRUE" */
    private static void assumeNotOfIt() {
        ThesisDesk desk = new ThesisDesk();
        int c = desk.constant();
        int a = nullary(desk);
        int contrary = not(desk, truth(desk));
        int[] each = {
            a, truth(desk), contrary, not(desk, a), and(desk, a, a), all(desk, c, a), desk.atom(-1, c, c),
            not(desk, and(desk, a, a)), some(desk, c, a), andOfSize(desk, a, 99),
        };
        for (int thesis : each) {
            int against = not(desk, thesis);
            String kind = " of kind " + desk.about(thesis, 0);
            fits(desk, "assume NOT of it" + kind, thesis, () -> desk.assume(against), contrary);
            misfits(desk, "assume it" + kind, thesis, () -> desk.assume(thesis));
        }
    }

    // ---- "THUS A: it is an AND whose first parts are ALIKE A's parts, or it is ALIKE A" ----

    private static void thusFirstParts() {
        ThesisDesk desk = new ThesisDesk();
        int a = nullary(desk);
        int b = nullary(desk);
        int c = nullary(desk);
        int ab = and(desk, a, b);
        int abc = and(desk, ab, c);
        int t = truth(desk);
        fits(desk, "one of three", abc, () -> desk.thus(a), and(desk, b, c));
        fits(desk, "two of three: one left", abc, () -> desk.thus(ab), c);
        fits(desk, "three of three: none left", abc, () -> desk.thus(abc), t);
        fits(desk, "one of two: one left", ab, () -> desk.thus(a), b);
        fits(desk, "two of two: none left", ab, () -> desk.thus(ab), t);
        int notB = not(desk, b);
        fits(desk, "one left that is a NOT", and(desk, a, notB), () -> desk.thus(a), notB);
        int large = andOfSize(desk, a, 100);
        fits(desk, "one of 99", large, () -> desk.thus(a), andOfSize(desk, a, 99));
        int most = many(desk, a, 98);
        fits(desk, "98 of 99", large, () -> desk.thus(most), a);
        fits(desk, "99 of 99", large, () -> desk.thus(large), t);
    }

    private static void thusOfOtherParts() {
        ThesisDesk desk = new ThesisDesk();
        int a = nullary(desk);
        int b = nullary(desk);
        int c = nullary(desk);
        int d = nullary(desk);
        int abc = and(desk, and(desk, a, b), c);
        int[] others = {
            b, c, d, and(desk, b, a), and(desk, a, c), and(desk, b, c), and(desk, a, d), and(desk, abc, d),
            and(desk, abc, a), truth(desk), not(desk, truth(desk)), not(desk, a), not(desk, abc),
        };
        for (int f : others) {
            misfits(desk, "thus form " + f, abc, () -> desk.thus(f));
        }
        misfits(desk, "a part more than there are", abc, () -> desk.thus(and(desk, abc, d)));
        misfits(desk, "the first part behind NOT", not(desk, abc), () -> desk.thus(a));
        misfits(desk, "more than it is", a, () -> desk.thus(abc));
    }

    private static void thusAlike() {
        ThesisDesk desk = new ThesisDesk();
        int c = desk.constant();
        int a = nullary(desk);
        int t = truth(desk);
        int[] each = {
            a, t, not(desk, t), not(desk, a), and(desk, a, a), all(desk, c, a), desk.atom(-1, c, c),
            not(desk, and(desk, a, a)), some(desk, c, a), andOfSize(desk, a, 100),
        };
        for (int thesis : each) {
            fits(desk, "thus it, of kind " + desk.about(thesis, 0), thesis, () -> desk.thus(thesis), t);
        }
        misfits(desk, "thus NOT of it", a, () -> desk.thus(each[3]));
        misfits(desk, "thus a of TRUE", t, () -> desk.thus(a));
        misfits(desk, "thus TRUE of a", a, () -> desk.thus(t));
    }

    // ---- "TAKE t: it is NOT ALL of f: NOT of f with t put in." ----

    private static void takeOfNotAll() {
        ThesisDesk desk = new ThesisDesk();
        int c = desk.constant();
        int d = desk.constant();
        int p = desk.predicate(2);
        int a = nullary(desk);
        int ofD = desk.atom(p, d, d);
        int thesis = not(desk, all(desk, c, desk.atom(p, c, d)));
        fits(desk, "take d", thesis, () -> desk.take(d), not(desk, ofD));
        fits(desk, "take of some: NOT NOT goes", some(desk, c, desk.atom(p, c, d)), () -> desk.take(d), ofD);
        int again = desk.part(ofD, 1);
        fits(desk, "take d by another number", thesis, () -> desk.take(again), not(desk, ofD));
        fits(desk, "an ALL of nothing", not(desk, all(desk, c, a)), () -> desk.take(d), not(desk, a));
        int deep = not(desk, all(desk, c, all(desk, d, desk.atom(p, c, d))));
        fits(desk, "the outer of two", deep, () -> desk.take(d), not(desk, all(desk, c, desk.atom(p, d, c))));
        int n = not(desk, truth(desk));
        fits(desk, "some of TRUE", some(desk, c, truth(desk)), () -> desk.take(c), truth(desk));
        fits(desk, "NOT ALL of NOT TRUE", not(desk, all(desk, c, n)), () -> desk.take(c), truth(desk));
        int large = not(desk, all(desk, c, andOfSize(desk, a, 98)));
        fits(desk, "of SIZE 100", large, () -> desk.take(c), not(desk, andOfSize(desk, a, 98)));
    }

    private static void takeOfOthers() {
        ThesisDesk desk = new ThesisDesk();
        int c = desk.constant();
        int p = desk.predicate(1);
        int f = desk.atom(p, c, NONE);
        int[] others = {
            f, not(desk, f), truth(desk), not(desk, truth(desk)), all(desk, c, f), and(desk, f, f),
            not(desk, and(desk, all(desk, c, f), f)), and(desk, not(desk, all(desk, c, f)), f),
        };
        for (int thesis : others) {
            misfits(desk, "take of form " + thesis, thesis, () -> desk.take(c));
        }
    }

    // ---- "GIVEN A with constant c: as ASSUME of NOT ALL of NOT A with c bound." ----

    private static void givenAsAssume() {
        ThesisDesk desk = new ThesisDesk();
        int c = desk.constant();
        int d = desk.constant();
        int p = desk.predicate(1);
        int a = nullary(desk);
        int f = desk.atom(p, c, NONE);
        int g = desk.atom(p, d, NONE);
        int contrary = not(desk, truth(desk));
        int first = some(desk, c, f);
        fits(desk, "the first of two", implies(desk, first, a), () -> desk.given(c, f), a);
        fits(desk, "by another constant", implies(desk, first, a), () -> desk.given(d, g), a);
        fits(desk, "NOT of it", not(desk, first), () -> desk.given(c, f), contrary);
        fits(desk, "NOT of an ALL", all(desk, c, not(desk, f)), () -> desk.given(c, f), contrary);
        misfits(desk, "a constant that is not in it", implies(desk, first, a), () -> desk.given(d, f));
        misfits(desk, "the second of two", not(desk, and(desk, a, first)), () -> desk.given(c, f));
        misfits(desk, "what stands under the ALL", implies(desk, f, a), () -> desk.given(c, f));
        int notF = not(desk, f);
        fits(desk, "A that is a NOT", all(desk, c, f), () -> desk.given(c, notF), contrary);
        fits(desk, "A that is NOT TRUE, of TRUE", truth(desk), () -> desk.given(c, contrary), contrary);
        int t = truth(desk);
        fits(desk, "A that is TRUE", not(desk, some(desk, c, t)), () -> desk.given(c, t), contrary);
        int aa = and(desk, a, a);
        fits(desk, "A that is an AND is one part", implies(desk, some(desk, c, aa), a), () -> desk.given(c, aa), a);
        int again = desk.part(f, 0);
        fits(desk, "a constant by another number", not(desk, first), () -> desk.given(again, f), contrary);
    }

    /** What is ASSUMED may be larger than any FORM: given gives no FORM. */
    private static void givenOfLarge() {
        ThesisDesk desk = new ThesisDesk();
        int c = desk.constant();
        int a = nullary(desk);
        int p = desk.predicate(0);
        int large = andOfSize(desk, a, 100);
        misfits(desk, "A of SIZE 100", a, () -> desk.given(c, large));
        int f = andOfSize(desk, a, 98);
        desk.define(p, all(desk, c, not(desk, f)));
        int contrary = not(desk, truth(desk));
        fits(desk, "NOT ALL NOT of SIZE 101", desk.atom(p, NONE, NONE), () -> desk.given(c, f), contrary);
    }

    private static void alikeButForNames() {
        ThesisDesk desk = new ThesisDesk();
        int c = desk.constant();
        int d = desk.constant();
        int p = desk.predicate(1);
        int a = nullary(desk);
        int one = all(desk, c, desk.atom(p, c, NONE));
        int other = all(desk, d, desk.atom(p, d, NONE));
        fits(desk, "thus by other names", one, () -> desk.thus(other), truth(desk));
        fits(desk, "a part by other names", and(desk, one, a), () -> desk.thus(other), a);
        fits(desk, "assume by other names", implies(desk, one, a), () -> desk.assume(other), a);
        misfits(desk, "constants are no names", desk.atom(p, c, NONE), () -> desk.thus(desk.atom(p, d, NONE)));
    }

    /** "Whether the latest step (of let, assume, thus, take, given) did FIT; true before." */
    private static void fitOfTheLatest() {
        ThesisDesk desk = new ThesisDesk();
        int c = desk.constant();
        int p = desk.predicate(1);
        int a = nullary(desk);
        int f = desk.atom(p, c, NONE);
        Check.due("before the first step", desk.fit(), true);
        desk.proof(a);
        Check.due("before the first step, in a proof", desk.fit(), true);
        BooleanSupplier[] steps = {
            () -> let(desk), () -> desk.assume(a), () -> desk.thus(f), () -> desk.take(c), () -> desk.given(c, f),
        };
        for (int i = 0; i < steps.length; i++) {
            Check.due("step " + i, steps[i].getAsBoolean(), false);
            Check.due("fit() behind step " + i, desk.fit(), false);
            desk.now();
            Check.due("a NOW is no step", desk.fit(), false);
            desk.thus(a);
            Check.due("fit() behind a step in a NOW", desk.fit(), true);
            desk.end();
            Check.due("an end is no step", desk.fit(), true);
        }
        desk.thus(f);
        desk.cases();
        desk.suppose(a);
        desk.end();
        desk.end();
        Check.due("blocks that begin and end are no steps", desk.fit(), false);
        Check.state("a step that throws", () -> desk.thus(a));
        Check.argument("another one", () -> desk.thus(-1));
        Check.due("they are no steps", desk.fit(), false);
        Check.due("count(3)", desk.count(3), 6);
    }

    // ---- "A step FITS THE THESIS or, if not, what it becomes when it is OPENED" ----

    private static void openedOnlyIfNot() {
        ThesisDesk desk = new ThesisDesk();
        int p = desk.predicate(0);
        int a = desk.atom(p, NONE, NONE);
        int b = nullary(desk);
        int notA = not(desk, a);
        desk.define(p, and(desk, a, b));
        fits(desk, "THUS that FITS at once", a, () -> desk.thus(a), truth(desk));
        desk.define(p, not(desk, and(desk, notA, b)));
        fits(desk, "ASSUME that FITS at once", a, () -> desk.assume(notA), not(desk, truth(desk)));
        fits(desk, "behind NOT, at once", notA, () -> desk.assume(a), not(desk, truth(desk)));
    }

    private static void openedTillItFits() {
        ThesisDesk desk = new ThesisDesk();
        int[] p = {desk.predicate(0), desk.predicate(0), desk.predicate(0)};
        int a = nullary(desk);
        int b = nullary(desk);
        int[] f = new int[3];
        for (int i = 0; i < 3; i++) {
            f[i] = desk.atom(p[i], NONE, NONE);
        }
        desk.define(p[0], f[1]);
        desk.define(p[1], f[2]);
        misfits(desk, "the last has no DEFINITION", f[0], () -> desk.thus(a));
        desk.define(p[2], and(desk, f[1], b));
        fits(desk, "no further than it FITS", f[0], () -> desk.thus(f[1]), truth(desk));
        fits(desk, "from where it stands", f[2], () -> desk.thus(f[1]), b);
        misfits(desk, "what is asked is not opened", a, () -> desk.thus(f[0]));
        desk.define(p[2], a);
        misfits(desk, "nor if it would be the thesis", a, () -> desk.thus(f[2]));
        fits(desk, "three times", f[0], () -> desk.thus(a), truth(desk));
        fits(desk, "three times behind NOT", not(desk, f[0]), () -> desk.assume(a), not(desk, truth(desk)));
    }

    /** "it, or what stands behind its NOT, is a PREDICATE with a DEFINITION" */
    private static void openedItselfAlone() {
        ThesisDesk desk = new ThesisDesk();
        int c = desk.constant();
        int p = desk.predicate(0);
        int f = desk.atom(p, NONE, NONE);
        int a = nullary(desk);
        int b = nullary(desk);
        int notA = not(desk, a);
        desk.define(p, a);
        misfits(desk, "a part of an AND", and(desk, f, b), () -> desk.thus(a));
        misfits(desk, "a part behind NOT", not(desk, and(desk, f, b)), () -> desk.assume(a));
        misfits(desk, "what an ALL speaks of", all(desk, c, f), () -> desk.thus(all(desk, c, a)));
        desk.define(p, all(desk, c, a));
        misfits(desk, "NOT of a part", and(desk, not(desk, f), b), () -> desk.take(c));
        fits(desk, "it", f, () -> let(desk), a);
        fits(desk, "behind its NOT", not(desk, f), () -> desk.take(c), notA);
        desk.define(p, notA);
        fits(desk, "NOT of a NOT", not(desk, f), () -> desk.thus(a), truth(desk));
        misfits(desk, "an equation has no DEFINITION", desk.atom(-1, c, c), () -> desk.thus(a));
    }

    /** "that, with its TERMS put in, takes its place" */
    private static void openedWithItsTerms() {
        ThesisDesk desk = new ThesisDesk();
        int c = desk.constant();
        int d = desk.constant();
        int e = desk.constant();
        int x = desk.locus(0);
        int y = desk.locus(1);
        int p = desk.predicate(2);
        int q = desk.predicate(2);
        int r = desk.predicate(1);
        int thesis = desk.atom(p, c, d);
        int t = truth(desk);
        int[][] rows = {
            {desk.atom(q, x, y), desk.atom(q, c, d)}, {desk.atom(q, y, x), desk.atom(q, d, c)},
            {desk.atom(q, x, x), desk.atom(q, c, c)}, {desk.atom(q, y, y), desk.atom(q, d, d)},
            {desk.atom(q, e, x), desk.atom(q, e, c)}, {desk.atom(q, e, e), desk.atom(q, e, e)},
            {all(desk, e, desk.atom(q, e, y)), all(desk, c, desk.atom(q, c, d))},
            {not(desk, and(desk, desk.atom(-1, x, y), desk.atom(-1, y, x))),
                not(desk, and(desk, desk.atom(-1, c, d), desk.atom(-1, d, c)))},
        };
        for (int[] row : rows) {
            desk.define(p, row[0]);
            fits(desk, "DEFINITION " + row[0], thesis, () -> desk.thus(row[1]), t);
            int against = not(desk, row[1]);
            fits(desk, "DEFINITION " + row[0] + " behind NOT", not(desk, thesis), () -> desk.thus(against), t);
        }
        desk.define(r, desk.atom(q, x, x));
        int one = desk.atom(q, d, d);
        fits(desk, "of one TERM", desk.atom(r, d, NONE), () -> desk.thus(one), t);
        desk.define(p, desk.atom(r, y, NONE));
        fits(desk, "one TERM of two", thesis, () -> desk.thus(one), t);
        desk.define(r, all(desk, e, desk.atom(q, x, e)));
        desk.proof(desk.atom(r, e, NONE));
        int made = desk.let();
        dueLeft(desk, "a TERM that was the bound one's name", desk.atom(q, e, made));
    }

    private static void openedInCircles() {
        ThesisDesk desk = new ThesisDesk();
        int p = desk.predicate(0);
        int f = desk.atom(p, NONE, NONE);
        int a = nullary(desk);
        int notF = not(desk, f);
        desk.define(p, f);
        misfits(desk, "a DEFINITION by itself", f, () -> desk.thus(a));
        misfits(desk, "NOT of it", f, () -> desk.thus(notF));
        desk.define(p, notF);
        fits(desk, "a DEFINITION by NOT itself", f, () -> desk.thus(notF), truth(desk));
        fits(desk, "and behind NOT", notF, () -> desk.thus(f), truth(desk));
        misfits(desk, "that never FITS", f, () -> desk.thus(a));
        fits(desk, "assume it", f, () -> desk.assume(f), not(desk, truth(desk)));
    }

    private static void openedToTrue() {
        ThesisDesk desk = new ThesisDesk();
        int p = desk.predicate(0);
        int f = desk.atom(p, NONE, NONE);
        int t = truth(desk);
        int contrary = not(desk, t);
        desk.define(p, t);
        fits(desk, "thus TRUE", f, () -> desk.thus(t), t);
        fits(desk, "thus NOT TRUE behind NOT", not(desk, f), () -> desk.thus(contrary), t);
        fits(desk, "assume TRUE behind NOT", not(desk, f), () -> desk.assume(t), contrary);
        desk.proof(f);
        Check.due("no step opens it: something is left", desk.end(), 0);
        desk.define(p, contrary);
        fits(desk, "thus TRUE behind NOT", not(desk, f), () -> desk.thus(t), t);
    }

    /**
     * "or what it leaves has a SIZE above 100": of a DEFINITION of SIZE 100 a step leaves less, and behind
     * NOT, where SIZE 101 stands on the way, at most 100.
     */
    private static void openedLarge() {
        ThesisDesk desk = new ThesisDesk();
        int c = desk.constant();
        int p = desk.predicate(0);
        int f = desk.atom(p, NONE, NONE);
        int a = nullary(desk);
        int s99 = andOfSize(desk, a, 99);
        int s100 = and(desk, s99, a);
        desk.define(p, s100);
        fits(desk, "THUS leaves SIZE 99", f, () -> desk.thus(a), s99);
        fits(desk, "THUS of SIZE 100", f, () -> desk.thus(s100), truth(desk));
        fits(desk, "ASSUME leaves SIZE 100", not(desk, f), () -> desk.assume(a), not(desk, s99));
        fits(desk, "ASSUME of SIZE 100", not(desk, f), () -> desk.assume(s100), not(desk, truth(desk)));
        desk.define(p, all(desk, c, s99));
        fits(desk, "LET leaves SIZE 99", f, () -> let(desk), s99);
        fits(desk, "TAKE leaves SIZE 100", not(desk, f), () -> desk.take(c), not(desk, s99));
        misfits(desk, "THUS of SIZE 101", not(desk, f), () -> desk.thus(a));
    }

    // ---- "at most 20 times, till the step FITS" ----

    private enum Opened {
        LET, ASSUME, CONTRARY, THUS, TAKE, GIVEN;

        /** What the thesis must be opened to, so that the step FITS. */
        int meaning(ThesisDesk desk, int c, int f, int a) {
            switch (this) {
                case LET:
                    return desk.bind(false, c, a);
                case ASSUME:
                    return implies(desk, f, a);
                case TAKE:
                    return not(desk, desk.bind(false, c, not(desk, a)));
                case GIVEN:
                    return implies(desk, desk.bind(true, c, f), a);
                case THUS:
                    return and(desk, f, a);
                default:
                    return not(desk, f);
            }
        }

        boolean step(ThesisDesk desk, int c, int f) {
            switch (this) {
                case LET:
                    return let(desk);
                case TAKE:
                    return desk.take(c);
                case GIVEN:
                    return desk.given(c, f);
                case THUS:
                    return desk.thus(f);
                default:
                    return desk.assume(f);
            }
        }

        int left(ThesisDesk desk, int a) {
            return this == CONTRARY ? not(desk, truth(desk)) : a;
        }
    }

    /** A chain of PREDICATES, each DEFINED by the next one; or, behind NOT, by NOT of it. */
    private static void twentyTimes(Opened opened, boolean turned) {
        ThesisDesk desk = new ThesisDesk();
        int c = desk.constant();
        int f = desk.atom(desk.predicate(1), c, NONE);
        int a = nullary(desk);
        int[] chain = new int[22];
        int[] p = new int[22];
        for (int i = 0; i < chain.length; i++) {
            p[i] = desk.predicate(0);
            chain[i] = desk.atom(p[i], NONE, NONE);
        }
        for (int i = 1; i < chain.length; i++) {
            desk.define(p[i], turned ? not(desk, chain[i - 1]) : chain[i - 1]);
        }
        int meaning = opened.meaning(desk, c, f, a);
        desk.define(p[0], meaning);
        int left = opened.left(desk, a);
        for (int times : new int[] {1, 2, 19, 20, 21, 22}) {
            // Opened so many times, the thesis has become the meaning; the NOTS of a turned chain cancel.
            boolean odd = turned && times % 2 == 0;
            int thesis = odd ? not(desk, chain[times - 1]) : chain[times - 1];
            String name = opened + " opened " + times + " times" + (turned ? ", turned" : "");
            if (times <= 20) {
                fits(desk, name, thesis, () -> opened.step(desk, c, f), left);
            } else {
                misfits(desk, name, thesis, () -> opened.step(desk, c, f));
            }
        }
    }
}
