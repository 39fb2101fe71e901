/** Each promise of the document: ordinary inputs, the edges that it names, wrong inputs. */
public final class PromisesTest extends Make {
    public static void main(String[] args) {
        newObject();
        predicate();
        define();
        constant();
        locus();
        atom();
        joinPlain();
        joinMadeShort();
        joinSizes();
        bind();
        proof();
        now();
        let();
        fit();
        assume();
        assumeContrary();
        thus();
        take();
        given();
        cases();
        suppose();
        end();
        endOfNow();
        endOfLargeNow();
        thesis();
        ways();
        about();
        part();
        alike();
        count();
        openings();
        notWhole();
        limits();
        Check.finish();
    }

    // ---- the promises ----

    private static void newObject() {
        ThesisDesk desk = new ThesisDesk();
        for (int what = 0; what <= 4; what++) {
            Check.due("new: count(" + what + ")", desk.count(what), 0);
        }
        Check.due("new: fit()", desk.fit(), true);
        Check.argument("new: about(0, 0)", () -> desk.about(0, 0));
        Check.state("new: end()", desk::end);
    }

    private static void predicate() {
        ThesisDesk desk = new ThesisDesk();
        for (int i = 0; i < 30; i++) {
            Check.due("predicate", desk.predicate(i % 3), i);
        }
        Check.argument("predicate(-1) of 30", () -> desk.predicate(-1));
        Check.argument("predicate(3) of 30", () -> desk.predicate(3));
        Check.state("predicate(0) of 30", () -> desk.predicate(0));
        Check.due("count(1)", desk.count(1), 30);
        Check.due("count(0): predicates are no forms", desk.count(0), 0);
    }

    private static void define() {
        ThesisDesk desk = new ThesisDesk();
        int[] p = {desk.predicate(0), desk.predicate(1), desk.predicate(2)};
        int first = desk.locus(0);
        int second = desk.locus(1);
        int[] meanings = {truth(desk), desk.atom(1, first, NONE), desk.atom(1, second, NONE)};
        for (int i = 0; i < 3; i++) {
            for (int j = 0; j < 3; j++) {
                int at = i;
                int with = j;
                if (j > i) {
                    Check.argument("define " + i + " by loci below " + j, () -> desk.define(p[at], meanings[with]));
                } else {
                    Check.due("define " + i + " by loci below " + j, desk.define(p[i], meanings[j]), j > 0);
                }
            }
        }
        Check.argument("define(3, TRUE)", () -> desk.define(3, meanings[0]));
        Check.argument("define(-1, TRUE)", () -> desk.define(-1, meanings[0]));
        Check.argument("define by a term", () -> desk.define(1, first));
        Check.argument("define by none", () -> desk.define(1, 99));
        Check.argument("define by -1", () -> desk.define(1, -1));
    }

    private static void constant() {
        ThesisDesk desk = new ThesisDesk();
        int c = desk.constant();
        int d = desk.constant();
        Check.due("constant()", c, 0);
        Check.due("constant()", d, 1);
        Check.due("two constants alike", desk.alike(c, d), false);
        Check.due("a constant's kind", desk.about(c, 0), 0);
        Check.due("count(4)", desk.count(4), 2);
    }

    private static void locus() {
        ThesisDesk desk = new ThesisDesk();
        Check.argument("locus(-1)", () -> desk.locus(-1));
        Check.argument("locus(2)", () -> desk.locus(2));
        int one = desk.locus(1);
        Check.due("locus(1)", one, 0);
        Check.due("a second locus(1)", desk.locus(1), 1);
        Check.due("loci alike", desk.alike(0, 1), true);
        Check.due("loci 0 and 1 alike", desk.alike(0, desk.locus(0)), false);
        Check.due("about(locus, 3)", desk.about(one, 3), 1);
        Check.due("count(4)", desk.count(4), 0);
    }

    private static void atom() {
        ThesisDesk desk = new ThesisDesk();
        int c = desk.constant();
        int x = desk.locus(1);
        for (int many = 0; many <= 2; many++) {
            int p = desk.predicate(many);
            int[][] terms = {{NONE, NONE}, {c, NONE}, {c, x}, {NONE, c}};
            for (int i = 0; i < terms.length; i++) {
                int s = terms[i][0];
                int t = terms[i][1];
                if (i == many) {
                    int f = desk.atom(p, s, t);
                    Check.due("about(atom, 0)", desk.about(f, 0), 5);
                    Check.due("about(atom, 1)", desk.about(f, 1), many);
                    Check.due("about(atom, 2)", desk.about(f, 2), many + 1);
                    Check.due("about(atom, 3)", desk.about(f, 3), p);
                } else {
                    Check.argument("atom of " + many + " with terms " + i, () -> desk.atom(p, s, t));
                }
            }
        }
        int same = desk.atom(-1, c, x);
        Check.due("about(=, 0)", desk.about(same, 0), 4);
        Check.due("about(=, 2)", desk.about(same, 2), 3);
        Check.due("about(=, 3)", desk.about(same, 3), -1);
        Check.due("c = c is not TRUE", desk.about(desk.atom(-1, c, c), 0), 4);
        Check.argument("atom(-1, c, -1)", () -> desk.atom(-1, c, NONE));
        Check.argument("atom(-2, c, c)", () -> desk.atom(-2, c, c));
        Check.argument("atom(3, c, c)", () -> desk.atom(3, c, c));
        Check.argument("atom of a formula", () -> desk.atom(1, same, NONE));
        Check.argument("atom of no form", () -> desk.atom(1, 99, NONE));
    }

    private static void joinPlain() {
        ThesisDesk desk = new ThesisDesk();
        int a = nullary(desk);
        int b = nullary(desk);
        int both = and(desk, a, b);
        Check.due("AND's kind", desk.about(both, 0), 7);
        Check.due("AND's size", desk.about(both, 2), 3);
        dueForm(desk, "AND's first", desk.part(both, 0), a);
        dueForm(desk, "AND's second", desk.part(both, 1), b);
        Check.due("AND turned is alike", desk.alike(both, and(desk, b, a)), false);
        dueForm(desk, "join 2", desk.join(2, a, b), not(desk, and(desk, not(desk, a), not(desk, b))));
        dueForm(desk, "join 3", desk.join(3, a, b), not(desk, and(desk, a, not(desk, b))));
        dueForm(desk, "join 4", desk.join(4, a, b), and(desk, desk.join(3, a, b), desk.join(3, b, a)));
        Check.due("TRUE's kind", desk.about(truth(desk), 0), 3);
        int c = desk.constant();
        Check.argument("join(-1)", () -> desk.join(-1, a, b));
        Check.argument("join(6)", () -> desk.join(6, a, b));
        Check.argument("join(6) of none", () -> desk.join(6, NONE, NONE));
        Check.argument("join(5, a, -1)", () -> desk.join(5, a, NONE));
        Check.argument("join(5, -1, a)", () -> desk.join(5, NONE, a));
        Check.argument("join(0, a, a)", () -> desk.join(0, a, a));
        Check.argument("join(0, -1, -1)", () -> desk.join(0, NONE, NONE));
        Check.argument("join(1, a, -1)", () -> desk.join(1, a, NONE));
        Check.argument("join(1, -1, a)", () -> desk.join(1, NONE, a));
        Check.argument("join of a term", () -> desk.join(2, a, c));
        Check.argument("join of no form", () -> desk.join(3, 999, a));
    }

    private static void joinMadeShort() {
        ThesisDesk desk = new ThesisDesk();
        int a = nullary(desk);
        int b = nullary(desk);
        int t = truth(desk);
        int n = not(desk, t);
        Check.due("NOT TRUE's kind", desk.about(n, 0), 6);
        dueForm(desk, "NOT NOT a", not(desk, not(desk, a)), a);
        dueForm(desk, "NOT NOT TRUE", not(desk, n), t);
        dueForm(desk, "a AND TRUE", and(desk, a, t), a);
        dueForm(desk, "TRUE AND a", and(desk, t, a), a);
        dueForm(desk, "TRUE AND TRUE", and(desk, t, t), t);
        dueForm(desk, "a AND NOT TRUE", and(desk, a, n), n);
        dueForm(desk, "NOT TRUE AND TRUE", and(desk, n, t), n);
        int three = and(desk, and(desk, a, b), a);
        dueForm(desk, "ANDS flow together", and(desk, a, and(desk, b, a)), three);
        Check.due("parts of it", desk.about(three, 1), 3);
        Check.due("parts of two ANDS", desk.about(and(desk, three, three), 1), 6);
        dueForm(desk, "a OR NOT TRUE", desk.join(2, a, n), a);
        dueForm(desk, "a OR TRUE", desk.join(2, a, t), t);
        dueForm(desk, "TRUE implies AND", desk.join(3, t, three), three);
        dueForm(desk, "a implies NOT TRUE", desk.join(3, a, n), not(desk, a));
        dueForm(desk, "a implies TRUE", desk.join(3, a, t), t);
        dueForm(desk, "NOT TRUE implies a", desk.join(3, n, a), t);
        dueForm(desk, "three iff TRUE", desk.join(4, three, t), three);
        dueForm(desk, "NOT TRUE iff a", desk.join(4, n, a), not(desk, a));
        dueForm(desk, "NOT TRUE iff TRUE", desk.join(4, n, t), n);
        int unlessB = desk.join(3, a, not(desk, and(desk, b, b)));
        Check.due("parts behind the NOT flow together", desk.about(desk.part(unlessB, 0), 1), 3);
    }

    private static void joinSizes() {
        ThesisDesk desk = new ThesisDesk();
        int a = nullary(desk);
        int large = many(desk, a, 99);
        Check.due("SIZE of 99", desk.about(large, 2), 100);
        int forms = desk.count(0);
        Check.state("99 AND a", () -> desk.join(1, large, a));
        Check.state("NOT 99", () -> desk.join(0, large, NONE));
        Check.state("99 OR 99", () -> desk.join(2, large, large));
        Check.state("99 iff 99", () -> desk.join(4, large, large));
        Check.argument("99 AND a term first", () -> desk.join(1, large, 999));
        Check.due("nothing was made", desk.count(0), forms);
        int t = truth(desk);
        dueForm(desk, "99 AND NOT TRUE", and(desk, large, not(desk, t)), not(desk, t));
        dueForm(desk, "99 implies TRUE", desk.join(3, large, t), t);
        dueForm(desk, "TRUE iff 99", desk.join(4, t, large), large);
        dueForm(desk, "99 OR NOT TRUE", desk.join(2, large, not(desk, t)), large);
    }

    private static void bind() {
        ThesisDesk desk = new ThesisDesk();
        int c = desk.constant();
        int d = desk.constant();
        int p = desk.predicate(2);
        int f = desk.atom(p, c, d);
        int all = desk.bind(false, c, f);
        Check.due("ALL's kind", desk.about(all, 0), 8);
        Check.due("ALL's size", desk.about(all, 2), 4);
        int some = desk.bind(true, c, f);
        dueForm(desk, "some", some, not(desk, desk.bind(false, c, not(desk, f))));
        dueForm(desk, "ALL of TRUE", desk.bind(false, c, truth(desk)), truth(desk));
        dueForm(desk, "some of NOT TRUE", desk.bind(true, c, not(desk, truth(desk))), not(desk, truth(desk)));
        Check.due("ALL of NOT TRUE's size", desk.about(desk.bind(false, c, not(desk, truth(desk))), 2), 3);
        Check.due("some of TRUE's size", desk.about(desk.bind(true, c, truth(desk)), 2), 4);
        int e = desk.constant();
        dueForm(desk, "names of what is bound", desk.bind(false, e, desk.atom(p, e, d)), all);
        Check.due("what is not bound", desk.alike(all, desk.bind(false, d, f)), false);
        Check.due("ALL of nothing", desk.about(desk.bind(false, e, f), 2), 4);
        int x = desk.locus(0);
        int again = desk.part(f, 0);
        dueForm(desk, "the constant by another number", desk.bind(false, again, f), all);
        Check.argument("bind a locus", () -> desk.bind(false, x, f));
        Check.argument("bind a formula", () -> desk.bind(false, f, f));
        Check.argument("bind none", () -> desk.bind(true, -1, f));
        Check.argument("bind in a term", () -> desk.bind(true, c, c));
        int large = many(desk, desk.atom(-1, c, c), 33);
        Check.due("SIZE of 33", desk.about(large, 2), 100);
        Check.state("ALL of SIZE 101", () -> desk.bind(false, c, large));
    }

    private static void proof() {
        ThesisDesk desk = new ThesisDesk();
        int a = nullary(desk);
        int open = desk.atom(-1, desk.locus(0), desk.locus(0));
        for (int i = 1; i <= 40; i++) {
            Check.due("proof", desk.proof(a), i);
        }
        Check.argument("proof of a formula with loci", () -> desk.proof(open));
        Check.argument("proof of none", () -> desk.proof(-1));
        Check.state("proof in 40", () -> desk.proof(a));
        Check.state("now in 40", desk::now);
        desk.end();
        desk.cases();
        Check.state("proof in a block that waits", () -> desk.proof(a));
        Check.argument("proof of a locus in a block that waits", () -> desk.proof(open));
        Check.due("count(2)", desk.count(2), 39);
    }

    private static void now() {
        ThesisDesk desk = new ThesisDesk();
        int a = nullary(desk);
        Check.due("now()", desk.now(), 1);
        Check.due("proof in it", desk.proof(a), 2);
        Check.due("now in that", desk.now(), 3);
        desk.end();
        desk.cases();
        Check.state("now in a block that waits", desk::now);
        desk.end();
        Check.due("steps within do not count", -2 - desk.end() > 0 && desk.about(desk.count(0) - 1, 0) == 3, true);
    }

    private static void let() {
        ThesisDesk desk = new ThesisDesk();
        int c = desk.constant();
        int p = desk.predicate(2);
        int f = desk.bind(false, c, desk.bind(false, desk.constant(), desk.atom(p, c, c)));
        Check.state("let() without a block", desk::let);
        desk.proof(f);
        int d = desk.let();
        Check.due("let() fits", desk.fit(), true);
        int inner = desk.thesis();
        Check.due("the inner ALL stays", desk.about(inner, 0), 8);
        desk.let();
        dueForm(desk, "what it speaks of", desk.thesis(), desk.atom(p, d, d));
        int constants = desk.count(4);
        int forms = desk.count(0);
        Check.due("a constant that does not fit", desk.let(), forms);
        Check.due("count(4)", desk.count(4), constants + 1);
        Check.due("fit()", desk.fit(), false);
        desk.cases();
        Check.state("let() while it waits", desk::let);
        Check.due("count(4)", desk.count(4), constants + 1);
        int x = desk.bind(false, c, desk.bind(false, d, desk.atom(p, c, d)));
        desk.end();
        desk.proof(x);
        int one = desk.let();
        int two = desk.let();
        dueLeft(desk, "the outer first", desk.atom(p, one, two));
    }

    private static void fit() {
        ThesisDesk desk = new ThesisDesk();
        int a = nullary(desk);
        int b = nullary(desk);
        desk.proof(a);
        desk.thus(b);
        Check.due("fit() behind a wrong step", desk.fit(), false);
        Check.argument("thus(-1)", () -> desk.thus(-1));
        desk.now();
        Check.due("fit() is the latest step's", desk.fit(), false);
        desk.thus(b);
        Check.due("fit() in a now", desk.fit(), true);
        desk.end();
        desk.cases();
        Check.state("thus while it waits", () -> desk.thus(b));
        Check.due("fit() behind a throw", desk.fit(), true);
        Check.due("count(3)", desk.count(3), 1);
    }

    private static void assume() {
        ThesisDesk desk = new ThesisDesk();
        int a = nullary(desk);
        int b = nullary(desk);
        int c = nullary(desk);
        int n = not(desk, truth(desk));
        int three = not(desk, and(desk, and(desk, a, b), c));
        desk.proof(three);
        Check.due("assume b", desk.assume(b), false);
        Check.due("assume a and c", desk.assume(and(desk, a, c)), false);
        Check.due("assume TRUE", desk.assume(truth(desk)), false);
        Check.due("assume the first", desk.assume(a), true);
        dueForm(desk, "two left", desk.thesis(), not(desk, and(desk, b, c)));
        Check.due("assume the next", desk.assume(b), true);
        dueForm(desk, "one left", desk.thesis(), not(desk, c));
        Check.due("assume the last", desk.assume(c), true);
        dueLeft(desk, "none left", n);
        desk.proof(three);
        Check.due("assume two", desk.assume(and(desk, a, b)), true);
        dueLeft(desk, "the third left", not(desk, c));
        desk.proof(three);
        Check.due("assume three", desk.assume(not(desk, three)), true);
        dueLeft(desk, "none left of three", n);
        desk.proof(desk.join(3, a, b));
        Check.due("assume a of an implication", desk.assume(a), true);
        dueForm(desk, "NOT NOT b", desk.thesis(), b);
        Check.due("more parts than there are", desk.assume(and(desk, a, b)), false);
        desk.end();
        Check.state("assume without a block", () -> desk.assume(a));
        Check.argument("assume of none", () -> desk.assume(-1));
        int open = desk.atom(-1, desk.locus(0), desk.locus(0));
        Check.argument("assume of loci", () -> desk.assume(open));
    }

    private static void assumeContrary() {
        ThesisDesk desk = new ThesisDesk();
        int a = nullary(desk);
        int t = truth(desk);
        int n = not(desk, t);
        int[][] pairs = {{a, not(desk, a)}, {not(desk, a), a}, {t, n}, {n, t}};
        for (int[] pair : pairs) {
            desk.proof(pair[0]);
            Check.due("assume the thesis", desk.assume(pair[0]), false);
            Check.due("assume NOT of the thesis", desk.assume(pair[1]), true);
            dueLeft(desk, "the contrary", n);
        }
        int both = and(desk, a, a);
        desk.proof(both);
        Check.due("assume the first of an AND", desk.assume(a), false);
        Check.due("assume NOT of an AND", desk.assume(not(desk, both)), true);
        desk.end();
    }

    private static void thus() {
        ThesisDesk desk = new ThesisDesk();
        int a = nullary(desk);
        int b = nullary(desk);
        int c = nullary(desk);
        int three = and(desk, and(desk, a, b), c);
        desk.proof(three);
        Check.due("thus b", desk.thus(b), false);
        Check.due("thus TRUE", desk.thus(truth(desk)), false);
        Check.due("thus a", desk.thus(a), true);
        dueForm(desk, "two left", desk.thesis(), and(desk, b, c));
        Check.due("thus a again", desk.thus(a), false);
        Check.due("thus three of two", desk.thus(three), false);
        Check.due("thus b then", desk.thus(b), true);
        dueForm(desk, "one left", desk.thesis(), c);
        Check.due("thus c", desk.thus(c), true);
        dueForm(desk, "none left", desk.thesis(), truth(desk));
        Check.due("thus TRUE of TRUE", desk.thus(truth(desk)), true);
        Check.due("end", desk.end(), 1);
        desk.proof(three);
        Check.due("thus two", desk.thus(and(desk, a, b)), true);
        dueLeft(desk, "the third", c);
        desk.proof(three);
        Check.due("thus all", desk.thus(three), true);
        Check.due("end", desk.end(), 1);
        desk.proof(not(desk, three));
        Check.due("thus the first behind NOT", desk.thus(a), false);
        desk.cases();
        Check.state("thus while it waits", () -> desk.thus(a));
        Check.argument("thus of none while it waits", () -> desk.thus(-1));
    }

    private static void take() {
        ThesisDesk desk = new ThesisDesk();
        int c = desk.constant();
        int d = desk.constant();
        int p = desk.predicate(1);
        int x = desk.locus(0);
        int f = desk.atom(p, c, NONE);
        Check.state("take without a block", () -> desk.take(c));
        desk.proof(desk.bind(true, c, f));
        Check.argument("take a locus", () -> desk.take(x));
        Check.argument("take a formula", () -> desk.take(f));
        Check.argument("take none", () -> desk.take(-1));
        Check.due("take d", desk.take(d), true);
        int g = desk.atom(p, d, NONE);
        dueForm(desk, "f of d", desk.thesis(), g);
        Check.due("take d again", desk.take(d), false);
        desk.end();
        desk.proof(not(desk, desk.bind(false, c, f)));
        Check.due("take of NOT ALL", desk.take(desk.part(g, 0)), true);
        dueLeft(desk, "NOT f of d", not(desk, g));
        desk.proof(desk.bind(false, c, f));
        Check.due("take of ALL", desk.take(d), false);
        desk.cases();
        Check.state("take while it waits", () -> desk.take(c));
        desk.end();
        desk.now();
        Check.state("take in a now", () -> desk.take(c));
        Check.argument("take a locus in a now", () -> desk.take(x));
        desk.proof(desk.bind(true, c, f));
        Check.due("take in a proof in a now", desk.take(c), true);
    }

    private static void given() {
        ThesisDesk desk = new ThesisDesk();
        int c = desk.constant();
        int d = desk.constant();
        int p = desk.predicate(1);
        int a = nullary(desk);
        int x = desk.locus(0);
        int f = desk.atom(p, c, NONE);
        int g = desk.atom(p, d, NONE);
        int some = desk.bind(true, c, f);
        Check.state("given without a block", () -> desk.given(c, f));
        desk.proof(desk.join(3, some, a));
        Check.due("given another constant", desk.given(c, g), false);
        Check.due("assume in its place", desk.assume(g), false);
        Check.due("given", desk.given(d, g), true);
        dueLeft(desk, "a left", a);
        desk.proof(not(desk, some));
        Check.due("given of NOT some", desk.given(c, f), true);
        dueLeft(desk, "the contrary", not(desk, truth(desk)));
        desk.proof(truth(desk));
        Check.due("given NOT TRUE of TRUE", desk.given(c, not(desk, truth(desk))), true);
        int open = desk.atom(p, x, NONE);
        Check.argument("given a locus", () -> desk.given(x, f));
        Check.argument("given a formula", () -> desk.given(f, f));
        Check.argument("given a formula with loci", () -> desk.given(c, open));
        Check.argument("given no formula", () -> desk.given(c, c));
        desk.cases();
        Check.state("given while it waits", () -> desk.given(c, f));
        desk.end();
        int large = many(desk, desk.atom(-1, c, c), 33);
        desk.proof(a);
        Check.due("given of SIZE 100", desk.given(c, large), false);
    }

    private static void cases() {
        ThesisDesk desk = new ThesisDesk();
        int a = nullary(desk);
        Check.state("cases without a block", desk::cases);
        desk.now();
        Check.state("cases in a now", desk::cases);
        desk.proof(a);
        desk.cases();
        Check.state("cases again", desk::cases);
        desk.suppose(a);
        desk.cases();
        Check.due("a case in a case", desk.suppose(a), 4);
    }

    private static void suppose() {
        ThesisDesk desk = new ThesisDesk();
        int a = nullary(desk);
        int b = nullary(desk);
        int open = desk.atom(-1, desk.locus(0), desk.locus(0));
        Check.state("suppose without a block", () -> desk.suppose(a));
        Check.argument("suppose none without a block", () -> desk.suppose(-1));
        desk.proof(and(desk, a, b));
        Check.state("suppose before cases", () -> desk.suppose(a));
        desk.thus(a);
        desk.cases();
        Check.argument("suppose loci", () -> desk.suppose(open));
        Check.due("suppose", desk.suppose(a), 2);
        dueForm(desk, "a case's thesis", desk.thesis(), b);
        Check.due("a case's step", desk.thus(b), true);
        Check.state("suppose in a case", () -> desk.suppose(a));
        desk.end();
        desk.suppose(b);
        dueForm(desk, "the next case's thesis", desk.thesis(), b);
        desk.end();
        desk.end();
        for (int i = 0; i < 40; i++) {
            desk.proof(a);
        }
        desk.cases();
        Check.state("suppose in 40", () -> desk.suppose(a));
        dueForm(desk, "it did nothing", desk.ways(), not(desk, truth(desk)));
    }

    private static void end() {
        ThesisDesk desk = new ThesisDesk();
        int a = nullary(desk);
        Check.state("end without a block", desk::end);
        desk.proof(truth(desk));
        Check.due("end of TRUE", desk.end(), 1);
        desk.proof(a);
        Check.due("end of a", desk.end(), 0);
        desk.proof(truth(desk));
        desk.cases();
        Check.due("end without cases", desk.end(), 0);
        for (int run = 0; run < 8; run++) {
            desk.proof(a);
            desk.cases();
            for (int i = 0; i < 3; i++) {
                desk.suppose(a);
                boolean shown = (run >> i & 1) == 1;
                if (shown) {
                    desk.thus(a);
                }
                Check.due("end of a case", desk.end(), shown ? 1 : 0);
            }
            Check.due("end of cases " + run, desk.end(), run == 7 ? 1 : 0);
        }
        desk.proof(a);
        desk.cases();
        desk.suppose(a);
        desk.cases();
        desk.suppose(a);
        desk.thus(a);
        Check.due("inner case", desk.end(), 1);
        Check.due("outer case", desk.end(), 1);
        desk.suppose(a);
        desk.cases();
        Check.due("a case without cases", desk.end(), 0);
        Check.due("the proof of both", desk.end(), 0);
        desk.proof(a);
        desk.proof(a);
        desk.thus(a);
        Check.due("end of a proof within", desk.end(), 1);
        Check.due("it shows nothing around", desk.end(), 0);
    }

    private static void endOfNow() {
        ThesisDesk desk = new ThesisDesk();
        int c = desk.constant();
        int p = desk.predicate(1);
        int a = nullary(desk);
        int b = nullary(desk);
        desk.now();
        int forms = desk.count(0);
        Check.due("end of an empty now", desk.end(), -2 - forms);
        dueForm(desk, "it says TRUE", forms, truth(desk));
        desk.now();
        desk.assume(a);
        desk.thus(b);
        desk.thus(a);
        dueForm(desk, "assume, thus", -2 - desk.end(), desk.join(3, a, and(desk, b, a)));
        desk.now();
        desk.thus(b);
        desk.assume(a);
        dueForm(desk, "an assume at the end", -2 - desk.end(), b);
        desk.now();
        int d = desk.let();
        int f = desk.atom(p, d, NONE);
        desk.assume(a);
        desk.thus(f);
        dueForm(desk, "let", -2 - desk.end(), desk.bind(false, d, desk.join(3, a, f)));
        desk.now();
        int g = desk.atom(p, c, NONE);
        desk.given(c, g);
        desk.thus(a);
        dueForm(desk, "given", -2 - desk.end(), desk.bind(false, c, desk.join(3, g, a)));
        desk.now();
        desk.thus(a);
        desk.proof(b);
        desk.thus(b);
        desk.end();
        desk.now();
        desk.thus(b);
        desk.end();
        desk.thus(a);
        dueForm(desk, "steps of blocks within", -2 - desk.end(), and(desk, a, a));
        desk.now();
        desk.thus(g);
        int e = desk.let();
        desk.thus(desk.atom(p, e, NONE));
        dueForm(desk, "what stands before let", -2 - desk.end(),
            and(desk, g, desk.bind(false, c, g)));
    }

    private static void endOfLargeNow() {
        ThesisDesk desk = new ThesisDesk();
        int a = nullary(desk);
        int large = many(desk, a, 99);
        desk.now();
        desk.thus(large);
        int forms = desk.count(0);
        Check.due("SIZE 100", desk.end(), -2 - forms);
        desk.now();
        for (int i = 0; i < 60; i++) {
            desk.assume(a);
            desk.thus(large);
        }
        Check.state("SIZE above 100", desk::end);
        Check.due("it stays open", desk.count(2), 1);
        Check.due("no form came", desk.count(0), forms + 1);
        desk.proof(a);
        Check.due("the block goes on", desk.thus(a), true);
        desk.end();
        Check.state("it is still too large", desk::end);
        ThesisDesk other = new ThesisDesk();
        int b = nullary(other);
        int no = not(other, truth(other));
        int big = many(other, b, 50);
        other.now();
        other.thus(big);
        other.assume(no);
        other.thus(big);
        other.thus(big);
        other.thus(big);
        other.thus(big);
        other.thus(big);
        dueForm(other, "ASSUME NOT TRUE makes it TRUE", -2 - other.end(), big);
        other.now();
        other.thus(b);
        other.thus(no);
        for (int i = 0; i < 9; i++) {
            other.let();
            other.assume(big);
            other.thus(big);
        }
        dueForm(other, "THUS NOT TRUE makes it NOT TRUE", -2 - other.end(), no);
    }

    private static void thesis() {
        ThesisDesk desk = new ThesisDesk();
        int a = nullary(desk);
        int b = nullary(desk);
        Check.state("thesis without a block", desk::thesis);
        desk.proof(and(desk, a, b));
        int forms = desk.count(0);
        Check.due("thesis is a new form", desk.thesis(), forms);
        Check.due("thesis is a new form again", desk.thesis(), forms + 1);
        desk.thus(b);
        dueForm(desk, "behind a wrong step", desk.thesis(), forms);
        desk.thus(a);
        desk.cases();
        dueForm(desk, "while it waits", desk.thesis(), b);
        desk.suppose(a);
        desk.thus(b);
        desk.end();
        dueForm(desk, "behind a case", desk.thesis(), b);
        desk.end();
        desk.now();
        desk.thus(a);
        dueForm(desk, "of a now", desk.thesis(), truth(desk));
    }

    private static void ways() {
        ThesisDesk desk = new ThesisDesk();
        int a = nullary(desk);
        int b = nullary(desk);
        int t = truth(desk);
        Check.state("ways without a block", desk::ways);
        desk.proof(a);
        Check.state("ways before cases", desk::ways);
        desk.cases();
        dueForm(desk, "no ways", desk.ways(), not(desk, t));
        int[] supposed = {a, b, not(desk, and(desk, a, b)), not(desk, t)};
        int due = not(desk, t);
        for (int f : supposed) {
            desk.suppose(f);
            Check.state("ways of a case", desk::ways);
            desk.end();
            due = desk.join(2, due, f);
            dueForm(desk, "ways", desk.ways(), due);
        }
        Check.due("NOT of NOT AND flows in", desk.about(desk.part(due, 0), 1), 4);
        desk.suppose(t);
        desk.end();
        dueForm(desk, "ways with TRUE", desk.ways(), t);
        desk.end();
        int large = many(desk, a, 99);
        desk.proof(a);
        desk.cases();
        desk.suppose(large);
        desk.end();
        dueForm(desk, "a way of SIZE 100", desk.ways(), large);
        for (int i = 0; i < 5; i++) {
            desk.suppose(large);
            desk.end();
            Check.state("ways of SIZE above 100", desk::ways);
        }
        desk.suppose(t);
        desk.end();
        dueForm(desk, "large ways with TRUE", desk.ways(), t);
        desk.suppose(large);
        desk.end();
        dueForm(desk, "larger ways with TRUE", desk.ways(), t);
    }

    private static void about() {
        ThesisDesk desk = new ThesisDesk();
        int c = desk.constant();
        int x = desk.locus(1);
        int p = desk.predicate(1);
        int q = desk.predicate(2);
        int f = desk.atom(q, c, x);
        int[][] due = {
            {c, 0, 0, 1, -1}, {x, 1, 0, 1, 1}, {truth(desk), 3, 0, 1, -1}, {desk.atom(-1, c, x), 4, 2, 3, -1},
            {f, 5, 2, 3, q}, {desk.atom(p, c, NONE), 5, 1, 2, p}, {not(desk, f), 6, 1, 4, -1},
            {and(desk, f, and(desk, f, f)), 7, 3, 10, -1}, {desk.bind(false, c, f), 8, 1, 4, -1},
        };
        for (int[] row : due) {
            for (int what = 0; what < 4; what++) {
                Check.due("about(kind " + row[1] + ", " + what + ")", desk.about(row[0], what), row[what + 1]);
            }
            Check.due("about(kind " + row[1] + ", 4)", desk.about(row[0], 4), -1);
            Check.due("about(kind " + row[1] + ", -1)", desk.about(row[0], -1), -1);
        }
        int inner = desk.part(desk.bind(false, c, desk.bind(true, desk.constant(), f)), 0);
        int body = desk.part(desk.part(desk.part(inner, 0), 0), 0);
        int variable = desk.part(body, 0);
        Check.due("a bound variable's kind", desk.about(variable, 0), 2);
        Check.due("a bound variable's parts", desk.about(variable, 1), 0);
        Check.due("a bound variable's size", desk.about(variable, 2), 1);
        Check.due("ALLS between", desk.about(variable, 3), 1);
        Check.argument("about(-1, 0)", () -> desk.about(-1, 0));
        Check.argument("about(count, 0)", () -> desk.about(desk.count(0), 0));
        Check.argument("about(count, 9)", () -> desk.about(desk.count(0), 9));
    }

    private static void part() {
        ThesisDesk desk = new ThesisDesk();
        int c = desk.constant();
        int d = desk.constant();
        int p = desk.predicate(2);
        int f = desk.atom(p, c, d);
        int g = desk.atom(-1, d, c);
        dueForm(desk, "first term", desk.part(f, 0), c);
        dueForm(desk, "second term", desk.part(f, 1), d);
        dueForm(desk, "second side", desk.part(g, 1), c);
        int three = and(desk, and(desk, f, not(desk, g)), g);
        dueForm(desk, "part 0", desk.part(three, 0), f);
        dueForm(desk, "part 1", desk.part(three, 1), not(desk, g));
        dueForm(desk, "part 2", desk.part(three, 2), g);
        dueForm(desk, "behind NOT", desk.part(not(desk, three), 0), three);
        Check.argument("part 3 of three", () -> desk.part(three, 3));
        Check.argument("part -1", () -> desk.part(three, -1));
        Check.argument("part of a constant", () -> desk.part(c, 0));
        Check.argument("part of none", () -> desk.part(-1, 0));
        int outer = desk.bind(false, c, and(desk, desk.bind(false, d, f), desk.bind(false, d, g)));
        int body = desk.part(outer, 0);
        int inner = desk.part(desk.part(body, 1), 0);
        Check.due("its own ALL is next", desk.about(desk.part(inner, 0), 3), 0);
        Check.due("another's ALL is behind one", desk.about(desk.part(inner, 1), 3), 1);
        Check.due("its size", desk.about(inner, 2), 3);
    }

    private static void alike() {
        ThesisDesk desk = new ThesisDesk();
        int c = desk.constant();
        int d = desk.constant();
        int p = desk.predicate(2);
        int f = desk.atom(p, c, d);
        int g = desk.atom(p, d, c);
        Check.due("with itself", desk.alike(f, f), true);
        Check.due("terms turned", desk.alike(f, g), false);
        Check.due("bound alike", desk.alike(desk.bind(false, c, desk.bind(false, d, f)),
            desk.bind(false, d, desk.bind(false, c, g))), true);
        Check.due("bound otherwise", desk.alike(desk.bind(false, c, desk.bind(false, d, f)),
            desk.bind(false, c, desk.bind(false, d, g))), false);
        int cc = desk.atom(p, c, c);
        int near = desk.part(desk.part(desk.bind(false, d, desk.bind(false, c, cc)), 0), 0);
        int away = desk.part(desk.part(desk.bind(false, c, desk.bind(false, d, cc)), 0), 0);
        Check.due("variables of other ALLS", desk.alike(near, away), false);
        Check.due("variables of such ALLS", desk.alike(desk.part(near, 0), desk.part(near, 1)), true);
        Check.due("a term and a formula", desk.alike(c, f), false);
        Check.due("a part and its AND", desk.alike(f, and(desk, f, g)), false);
        Check.argument("alike(-1, f)", () -> desk.alike(-1, f));
        Check.argument("alike(f, 999)", () -> desk.alike(f, 999));
    }

    private static void count() {
        ThesisDesk desk = new ThesisDesk();
        int c = desk.constant();
        int f = desk.atom(desk.predicate(1), c, NONE);
        desk.proof(f);
        desk.now();
        desk.let();
        desk.end();
        desk.let();
        desk.take(c);
        desk.assume(f);
        desk.given(c, f);
        Check.due("count(0)", desk.count(0), 5);
        Check.due("count(1)", desk.count(1), 1);
        Check.due("count(2)", desk.count(2), 1);
        Check.due("count(3)", desk.count(3), 4);
        Check.due("count(4)", desk.count(4), 3);
        desk.part(f, 0);
        Check.due("a part is no new constant", desk.count(4), 3);
        Check.argument("count(-1)", () -> desk.count(-1));
        Check.argument("count(5)", () -> desk.count(5));
    }

    /** A chain of DEFINITIONS, each opened to the next one's NOT. */
    private static void openings() {
        ThesisDesk desk = new ThesisDesk();
        int c = desk.constant();
        int d = desk.constant();
        int first = desk.locus(0);
        int second = desk.locus(1);
        int[] p = new int[23];
        for (int i = 0; i < p.length; i++) {
            p[i] = desk.predicate(2);
        }
        for (int i = 0; i + 1 < p.length; i++) {
            desk.define(p[i], not(desk, desk.atom(p[i + 1], second, first)));
        }
        int thesis = desk.atom(p[0], c, d);
        int[] due = {desk.atom(p[20], c, d), not(desk, desk.atom(p[21], d, c)), not(desk, desk.atom(p[19], d, c))};
        for (int i = 0; i < 3; i++) {
            desk.proof(thesis);
            Check.due("thus of the wrong terms", desk.thus(desk.atom(p[20], d, c)), false);
            dueForm(desk, "it stays as it was", desk.thesis(), thesis);
            Check.due("thus behind 20 openings and " + i, desk.thus(due[i]), i != 1);
            Check.due("end", desk.end(), i != 1 ? 1 : 0);
        }
        int e = desk.constant();
        int all = desk.bind(false, e, desk.bind(false, desk.constant(), desk.atom(p[0], e, first)));
        int q = desk.predicate(1);
        Check.due("define", desk.define(q, all), false);
        desk.proof(desk.atom(q, c, NONE));
        int one = desk.let();
        desk.let();
        Check.due("let opens", desk.fit(), true);
        dueLeft(desk, "the term put in", desk.atom(p[0], one, c));
        desk.proof(not(desk, desk.atom(q, c, NONE)));
        Check.due("take opens behind NOT", desk.take(d), true);
        desk.end();
        int large = desk.bind(false, c, many(desk, desk.atom(p[22], first, c), 32));
        large = desk.bind(false, c, desk.bind(false, c, large));
        Check.due("a DEFINITION's SIZE", desk.about(large, 2), 100);
        desk.define(q, large);
        desk.proof(not(desk, desk.atom(q, c, NONE)));
        Check.due("take leaves SIZE 100", desk.take(d), true);
        Check.due("its SIZE", desk.about(desk.thesis(), 2), 100);
        desk.end();
        int r = desk.predicate(0);
        int a = desk.atom(r, NONE, NONE);
        desk.define(r, a);
        desk.proof(a);
        Check.due("a DEFINITION by itself", desk.thus(thesis), false);
        Check.due("the definition in place of it", desk.define(r, thesis), true);
        Check.due("thus by the new one", desk.thus(thesis), true);
    }

    /** Forms in which a bound variable stands without its ALL are taken by three calls alone. */
    private static void notWhole() {
        ThesisDesk desk = new ThesisDesk();
        int c = desk.constant();
        int p = desk.predicate(1);
        int body = desk.part(desk.bind(false, c, desk.atom(p, c, NONE)), 0);
        int v = desk.part(body, 0);
        int f = desk.atom(p, c, NONE);
        Check.argument("define", () -> desk.define(p, body));
        Check.argument("atom", () -> desk.atom(p, v, NONE));
        Check.argument("atom =", () -> desk.atom(-1, c, v));
        Check.argument("join 0", () -> desk.join(0, body, NONE));
        Check.argument("join 1", () -> desk.join(1, f, body));
        Check.argument("bind", () -> desk.bind(false, c, body));
        Check.argument("bind a variable", () -> desk.bind(false, v, f));
        Check.argument("proof", () -> desk.proof(body));
        Check.argument("assume", () -> desk.assume(body));
        Check.argument("thus", () -> desk.thus(body));
        Check.argument("take", () -> desk.take(v));
        Check.argument("given", () -> desk.given(c, body));
        Check.argument("suppose", () -> desk.suppose(body));
        Check.due("alike", desk.alike(body, f), false);
        int empty = desk.part(desk.bind(false, desk.constant(), f), 0);
        Check.due("what an ALL of nothing speaks of is whole", desk.proof(empty), 1);
    }

    /** Beyond 512 calls answers are free, but what is kept stays bounded and nothing breaks. */
    private static void limits() {
        ThesisDesk desk = new ThesisDesk();
        int a = nullary(desk);
        for (int i = 1; i < 1000; i++) {
            desk.constant();
        }
        desk.proof(a);
        Check.state("a form beyond 1000", desk::constant);
        Check.state("let beyond 1000", desk::let);
        Check.state("thesis beyond 1000", desk::thesis);
        Check.argument("part of none beyond 1000", () -> desk.part(a, 0));
        Check.argument("about(1000, 0)", () -> desk.about(1000, 0));
        Check.due("count(0)", desk.count(0), 1000);
        Check.due("count(4)", desk.count(4), 999);
        Check.due("count(3)", desk.count(3), 0);
        desk.now();
        Check.state("end of a now beyond 1000", desk::end);
        Check.due("it stays open", desk.count(2), 2);
        for (int i = 0; i < 1000; i++) {
            desk.thus(a);
        }
        Check.state("a step beyond 1000", () -> desk.thus(a));
    }
}
