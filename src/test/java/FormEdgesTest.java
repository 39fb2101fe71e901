/** Edges that the document names for FORMS: Terms 1 and promises 1 to 8 and 22 to 25, sentence by sentence. */
public final class FormEdgesTest extends Make {
    public static void main(String[] args) {
        nothingAtFirst();
        firstNumbersAreZero();
        eachCallGivesTheNextNumber();
        otherCallsGiveNoForm();
        firstAndLastNumberAreForms();
        alikeButForNames();
        alikeNotForMore();
        wholeWithItsAll();
        notWholeWithoutIt();
        notWholeIsTakenByThree();
        closedWithoutLoci();
        notNot();
        partsOfAndsFlowIn();
        trueOnesGo();
        notTrueTakesAll();
        onePartIsThatPart();
        allOfTrue();
        sizes();
        sizeOfNot();
        sizeOfAnd();
        sizeOfOr();
        sizeOfImplies();
        sizeOfBothWays();
        sizeOfBind();
        largeOnTheWay();
        termsOfPredicates();
        thirtyPredicates();
        lociOfDefinitions();
        definitionInPlaceOfAnother();
        constantsAreNew();
        lociAreTwo();
        otherTermsAreNone();
        kindsOfJoin();
        bindWhatIsNotThere();
        bindBoundAlready();
        aboutKinds();
        aboutOtherQuestions();
        allsBetween();
        firstAndLastPart();
        variablesStayAsTheyAre();
        countsFromZeroToFour();
        Check.finish();
    }

    // ---- promise 1: "No FORMS, no BLOCKS." ----

    private static void nothingAtFirst() {
        ThesisDesk desk = new ThesisDesk();
        for (int what = 0; what <= 4; what++) {
            Check.due("count(" + what + ") at first", desk.count(what), 0);
        }
        Check.due("fit() at first", desk.fit(), true);
        Check.argument("about(0, 0) at first", () -> desk.about(0, 0));
        Check.argument("part(0, 0) at first", () -> desk.part(0, 0));
        Check.argument("alike(0, 0) at first", () -> desk.alike(0, 0));
        Check.argument("define(0, 0) at first", () -> desk.define(0, 0));
        Check.argument("atom(0, -1, -1) at first", () -> desk.atom(0, NONE, NONE));
        Check.argument("atom(-1, 0, 0) at first", () -> desk.atom(-1, 0, 0));
        Check.argument("join(0, 0, -1) at first", () -> desk.join(0, 0, NONE));
        Check.argument("bind(false, 0, 0) at first", () -> desk.bind(false, 0, 0));
        Check.argument("proof(0) at first", () -> desk.proof(0));
        Check.state("let() at first", desk::let);
        Check.state("cases() at first", desk::cases);
        Check.state("end() at first", desk::end);
        Check.state("thesis() at first", desk::thesis);
        Check.state("ways() at first", desk::ways);
    }

    private static void firstNumbersAreZero() {
        ThesisDesk desk = new ThesisDesk();
        Check.due("the first PREDICATE", desk.predicate(0), 0);
        Check.due("the first FORM", desk.atom(0, NONE, NONE), 0);
        Check.due("the first block", desk.proof(0), 1);
        ThesisDesk other = new ThesisDesk();
        Check.due("the first FORM of another object", other.constant(), 0);
        Check.due("the first PREDICATE of another object", other.predicate(2), 0);
    }

    // ---- "numbers from 0 on, in the order in which they come (each call a new one)" ----

    private static void eachCallGivesTheNextNumber() {
        ThesisDesk desk = new ThesisDesk();
        int p = desk.predicate(1);
        for (int round = 0; round < 2; round++) {
            int from = desk.count(0);
            Check.due("from where round " + round + " counts", from, round * 11);
            Check.due("constant()", desk.constant(), from);
            Check.due("locus(0)", desk.locus(0), from + 1);
            Check.due("atom", desk.atom(p, 0, NONE), from + 2);
            Check.due("join", desk.join(5, NONE, NONE), from + 3);
            Check.due("bind", desk.bind(false, 0, 2), from + 4);
            desk.proof(4);
            Check.due("thesis()", desk.thesis(), from + 5);
            Check.due("let()", desk.let(), from + 6);
            desk.cases();
            Check.due("ways()", desk.ways(), from + 7);
            desk.end();
            Check.due("part", desk.part(2, 0), from + 8);
            desk.now();
            Check.due("end() of a NOW", desk.end(), -2 - (from + 9));
            Check.due("a join that is one of its parts", desk.join(1, 2, 3), from + 10);
        }
        Check.due("forms in all", desk.count(0), 22);
        int[] alikeAgain = {1, 2, 3, 4, 5, 7, 8, 9, 10};
        for (int x : alikeAgain) {
            Check.due("form " + x + " came again under a new number", desk.alike(x, x + 11), true);
        }
        Check.due("constant() gives another one", desk.alike(0, 11), false);
        Check.due("let() gives another one", desk.alike(6, 17), false);
    }

    private static void otherCallsGiveNoForm() {
        ThesisDesk desk = new ThesisDesk();
        int c = desk.constant();
        int a = nullary(desk);
        desk.predicate(1);
        desk.define(0, a);
        desk.now();
        desk.proof(a);
        desk.assume(a);
        desk.thus(a);
        desk.take(c);
        desk.given(c, a);
        desk.cases();
        desk.suppose(a);
        desk.fit();
        desk.end();
        desk.end();
        desk.about(a, 0);
        desk.alike(a, c);
        desk.count(0);
        Check.due("forms behind calls that give none", desk.count(0), 2);
        Check.due("the next one's number", desk.constant(), 2);
    }

    private static void firstAndLastNumberAreForms() {
        ThesisDesk desk = new ThesisDesk();
        int a = nullary(desk);
        int both = and(desk, a, a);
        int last = not(desk, both);
        Check.due("about the first", desk.about(0, 0), 5);
        Check.due("about the last", desk.about(last, 0), 6);
        Check.argument("about behind the last", () -> desk.about(last + 1, 0));
        Check.argument("about before the first", () -> desk.about(-1, 0));
        Check.argument("alike behind the last", () -> desk.alike(0, last + 1));
        Check.argument("alike behind the last, turned", () -> desk.alike(last + 1, 0));
        Check.argument("alike before the first", () -> desk.alike(-1, -1));
        Check.due("alike the last", desk.alike(last, last), true);
        Check.argument("part behind the last", () -> desk.part(last + 1, 0));
        Check.argument("NOT behind the last", () -> desk.join(0, last + 1, NONE));
        Check.due("a part of the last", desk.part(last, 0), last + 1);
        Check.due("that is a form from now on", desk.about(last + 1, 0), 7);
    }

    // ---- "ALIKE if they are the same but for names of bound variables" ----

    private static void alikeButForNames() {
        ThesisDesk desk = new ThesisDesk();
        int c = desk.constant();
        int d = desk.constant();
        int p = desk.predicate(2);
        int allC = desk.bind(false, c, desk.atom(p, c, c));
        int allD = desk.bind(false, d, desk.atom(p, d, d));
        dueForm(desk, "another name", allC, allD);
        int x = desk.bind(false, c, desk.bind(true, d, desk.atom(p, c, d)));
        int y = desk.bind(false, d, desk.bind(true, c, desk.atom(p, d, c)));
        dueForm(desk, "two names changed", x, y);
        dueForm(desk, "made again", desk.atom(p, c, d), desk.atom(p, c, d));
        dueForm(desk, "a constant by another number", desk.part(desk.atom(p, c, d), 1), d);
        dueForm(desk, "in ANDS behind NOT", not(desk, and(desk, allC, allD)), not(desk, and(desk, allD, allC)));
    }

    private static void alikeNotForMore() {
        ThesisDesk desk = new ThesisDesk();
        int c = desk.constant();
        int d = desk.constant();
        int p = desk.predicate(2);
        int q = desk.predicate(2);
        int r = desk.predicate(0);
        int f = desk.atom(p, c, d);
        int[][] others = {
            {c, d}, {desk.locus(0), desk.locus(1)}, {c, desk.locus(0)}, {f, desk.atom(q, c, d)},
            {f, desk.atom(p, d, c)}, {f, desk.atom(p, c, c)}, {f, desk.atom(-1, c, d)}, {f, not(desk, f)},
            {f, and(desk, f, f)}, {and(desk, f, f), many(desk, f, 3)}, {f, desk.bind(false, c, f)},
            {desk.bind(false, c, f), desk.bind(false, d, f)}, {desk.bind(false, c, f), desk.bind(true, c, f)},
            {truth(desk), not(desk, truth(desk))}, {truth(desk), desk.atom(r, NONE, NONE)},
            {desk.atom(-1, c, d), desk.atom(-1, d, c)}, {truth(desk), desk.atom(-1, c, c)},
            {desk.bind(false, c, desk.bind(false, d, f)), desk.bind(false, d, desk.bind(false, c, f))},
        };
        for (int[] pair : others) {
            Check.due("alike(" + pair[0] + ", " + pair[1] + ")", desk.alike(pair[0], pair[1]), false);
            Check.due("alike(" + pair[1] + ", " + pair[0] + ")", desk.alike(pair[1], pair[0]), false);
        }
        desk.define(p, truth(desk));
        Check.due("a PREDICATE and its DEFINITION", desk.alike(f, truth(desk)), false);
    }

    // ---- "WHOLE: no bound variable stands in it without its ALL" ----

    private static void wholeWithItsAll() {
        ThesisDesk desk = new ThesisDesk();
        int c = desk.constant();
        int d = desk.constant();
        int p = desk.predicate(2);
        int inner = desk.bind(false, d, desk.atom(p, d, d));
        int ofNothing = desk.bind(false, c, inner);
        int spokenOf = desk.part(ofNothing, 0);
        dueForm(desk, "what an ALL of nothing speaks of", spokenOf, inner);
        Check.due("it is WHOLE: proof", desk.proof(spokenOf), 1);
        Check.due("NOT of it", desk.about(desk.join(0, spokenOf, NONE), 2), 5);
        int outer = desk.bind(false, c, and(desk, inner, desk.atom(p, c, c)));
        Check.due("a part with an ALL of its own", desk.proof(desk.part(desk.part(outer, 0), 0)), 2);
        int body = desk.part(desk.bind(false, c, desk.atom(p, c, d)), 0);
        Check.due("a constant beside a variable", desk.take(desk.part(body, 1)), false);
    }

    private static void notWholeWithoutIt() {
        ThesisDesk desk = new ThesisDesk();
        int c = desk.constant();
        int d = desk.constant();
        int p = desk.predicate(2);
        int a = nullary(desk);
        int near = desk.part(desk.bind(false, c, desk.atom(p, c, d)), 0);
        int second = desk.part(desk.bind(false, c, desk.atom(-1, d, c)), 0);
        int behindNot = desk.part(desk.bind(false, c, not(desk, desk.atom(p, d, c))), 0);
        int inLastPart = desk.part(desk.bind(false, c, and(desk, a, desk.atom(p, c, c))), 0);
        int underAnother = desk.part(desk.bind(false, c, desk.bind(false, d, desk.atom(p, d, c))), 0);
        for (int f : new int[] {near, second, behindNot, inLastPart, underAnother}) {
            Check.argument("proof of form " + f, () -> desk.proof(f));
            Check.argument("NOT of form " + f, () -> desk.join(0, f, NONE));
            Check.argument("define by form " + f, () -> desk.define(p, f));
            Check.argument("bind in form " + f, () -> desk.bind(false, c, f));
        }
        Check.due("none was taken", desk.count(2), 0);
    }

    private static void notWholeIsTakenByThree() {
        ThesisDesk desk = new ThesisDesk();
        int c = desk.constant();
        int p = desk.predicate(1);
        int all = desk.bind(false, c, and(desk, desk.atom(p, c, NONE), desk.atom(-1, c, c)));
        int body = desk.part(all, 0);
        Check.due("about takes it: kind", desk.about(body, 0), 7);
        Check.due("about takes it: parts", desk.about(body, 1), 2);
        Check.due("about takes it: SIZE", desk.about(body, 2), 6);
        Check.due("about takes it: mark", desk.about(desk.part(body, 0), 3), p);
        int variable = desk.part(desk.part(body, 1), 1);
        Check.due("part takes it", desk.about(variable, 0), 2);
        Check.due("alike takes it", desk.alike(body, desk.part(all, 0)), true);
        Check.due("alike takes a variable", desk.alike(variable, desk.part(desk.part(body, 0), 0)), true);
        Check.due("a variable and its constant", desk.alike(variable, c), false);
    }

    // ---- "CLOSED: WHOLE and without LOCI" ----

    private static void closedWithoutLoci() {
        ThesisDesk desk = new ThesisDesk();
        int c = desk.constant();
        int p = desk.predicate(1);
        int a = nullary(desk);
        for (int i = 0; i <= 1; i++) {
            int x = desk.locus(i);
            int atom = desk.atom(p, x, NONE);
            int[] open = {
                atom, not(desk, atom), and(desk, a, atom), desk.bind(false, c, atom), desk.atom(-1, c, x),
                desk.atom(-1, x, c),
            };
            for (int f : open) {
                Check.argument("proof of LOCUS " + i, () -> desk.proof(f));
                Check.argument("thus of LOCUS " + i, () -> desk.thus(f));
                Check.due("WHOLE with LOCUS " + i, desk.about(not(desk, f), 0) >= 5, true);
            }
            Check.argument("take of LOCUS " + i, () -> desk.take(x));
        }
        int gone = and(desk, not(desk, truth(desk)), desk.atom(p, desk.locus(0), NONE));
        Check.due("a LOCUS that is gone", desk.proof(gone), 1);
    }

    // ---- "They are made so that .." ----

    private static void notNot() {
        ThesisDesk desk = new ThesisDesk();
        int c = desk.constant();
        int a = nullary(desk);
        int[] each = {
            a, truth(desk), desk.atom(-1, c, c), not(desk, a), not(desk, truth(desk)), and(desk, a, a),
            desk.bind(false, c, a),
        };
        for (int f : each) {
            int once = not(desk, f);
            Check.due("NOT changes its kind", desk.about(once, 0) == 6, desk.about(f, 0) != 6);
            dueForm(desk, "NOT NOT", not(desk, once), f);
        }
        dueForm(desk, "some of NOT a has no NOT NOT", desk.bind(true, c, not(desk, a)),
            not(desk, desk.bind(false, c, a)));
        dueForm(desk, "OR of NOTS", desk.join(2, not(desk, a), not(desk, a)), not(desk, and(desk, a, a)));
        dueForm(desk, "implied NOT", implies(desk, a, not(desk, a)), not(desk, and(desk, a, a)));
    }

    private static void partsOfAndsFlowIn() {
        ThesisDesk desk = new ThesisDesk();
        int[] a = new int[6];
        for (int i = 0; i < a.length; i++) {
            a[i] = nullary(desk);
        }
        int left = and(desk, and(desk, a[0], a[1]), a[2]);
        int right = and(desk, a[3], and(desk, a[4], a[5]));
        int all = and(desk, left, right);
        Check.due("parts of all", desk.about(all, 1), 6);
        Check.due("SIZE of all", desk.about(all, 2), 7);
        for (int i = 0; i < a.length; i++) {
            dueForm(desk, "part " + i + " in order", desk.part(all, i), a[i]);
        }
        int held = and(desk, not(desk, left), a[3]);
        Check.due("an AND behind NOT stays", desk.about(held, 1), 2);
        int or = desk.join(2, not(desk, left), a[3]);
        Check.due("NOT of NOT AND flows in", desk.about(desk.part(or, 0), 1), 4);
        Check.due("both ways", desk.about(desk.join(4, left, a[3]), 1), 2);
        int c = desk.constant();
        Check.due("an AND in an ALL stays", desk.about(and(desk, desk.bind(false, c, left), a[3]), 1), 2);
    }

    private static void trueOnesGo() {
        ThesisDesk desk = new ThesisDesk();
        int a = nullary(desk);
        int t = truth(desk);
        int two = and(desk, a, a);
        dueForm(desk, "TRUE first", and(desk, t, two), two);
        dueForm(desk, "TRUE last", and(desk, two, t), two);
        dueForm(desk, "none left", and(desk, t, t), t);
        dueForm(desk, "TRUE implies a", implies(desk, t, a), a);
        dueForm(desk, "a OR NOT TRUE", desk.join(2, a, not(desk, t)), a);
        dueForm(desk, "NOT TRUE OR NOT TRUE", desk.join(2, not(desk, t), not(desk, t)), not(desk, t));
        dueForm(desk, "TRUE both ways", desk.join(4, t, t), t);
        dueForm(desk, "NOT TRUE both ways", desk.join(4, not(desk, t), not(desk, t)), t);
    }

    private static void notTrueTakesAll() {
        ThesisDesk desk = new ThesisDesk();
        int a = nullary(desk);
        int t = truth(desk);
        int n = not(desk, t);
        int two = and(desk, a, a);
        for (int f : new int[] {a, t, n, two, not(desk, a)}) {
            dueForm(desk, "NOT TRUE first", and(desk, n, f), n);
            dueForm(desk, "NOT TRUE last", and(desk, f, n), n);
            dueForm(desk, "TRUE in OR first", desk.join(2, t, f), t);
            dueForm(desk, "TRUE in OR last", desk.join(2, f, t), t);
            dueForm(desk, "NOT TRUE implies", implies(desk, n, f), t);
            dueForm(desk, "implies TRUE", implies(desk, f, t), t);
        }
        Check.due("NOT TRUE is short", desk.about(and(desk, two, n), 2), 2);
    }

    private static void onePartIsThatPart() {
        ThesisDesk desk = new ThesisDesk();
        int c = desk.constant();
        int a = nullary(desk);
        int t = truth(desk);
        for (int f : new int[] {a, not(desk, a), desk.bind(false, c, a), desk.atom(-1, c, c)}) {
            int one = and(desk, f, t);
            Check.due("of one part its kind", desk.about(one, 0), desk.about(f, 0));
            dueForm(desk, "of one part", one, f);
            dueForm(desk, "TRUE implies it", implies(desk, t, f), f);
            dueForm(desk, "it implies NOT TRUE", implies(desk, f, not(desk, t)), not(desk, f));
        }
    }

    private static void allOfTrue() {
        ThesisDesk desk = new ThesisDesk();
        int c = desk.constant();
        int t = truth(desk);
        int n = not(desk, t);
        dueForm(desk, "ALL of TRUE", desk.bind(false, c, t), t);
        dueForm(desk, "some of NOT TRUE", desk.bind(true, c, n), n);
        int allOfNot = desk.bind(false, c, n);
        Check.due("ALL of NOT TRUE is an ALL", desk.about(allOfNot, 0), 8);
        Check.due("its SIZE", desk.about(allOfNot, 2), 3);
        dueForm(desk, "some of TRUE", desk.bind(true, c, t), not(desk, allOfNot));
        dueForm(desk, "ALL of ALL of TRUE", desk.bind(false, c, desk.bind(false, c, t)), t);
    }

    // ---- "SIZE: 1 and those of parts and TERMS (each 1)", "a SIZE above 100" ----

    private static void sizes() {
        ThesisDesk desk = new ThesisDesk();
        int c = desk.constant();
        int[] atoms = new int[3];
        for (int many = 0; many <= 2; many++) {
            int p = desk.predicate(many);
            atoms[many] = desk.atom(p, many > 0 ? c : NONE, many > 1 ? c : NONE);
            Check.due("SIZE of an atom of " + many, desk.about(atoms[many], 2), 1 + many);
        }
        Check.due("SIZE of a constant", desk.about(c, 2), 1);
        Check.due("SIZE of a LOCUS", desk.about(desk.locus(1), 2), 1);
        Check.due("SIZE of TRUE", desk.about(truth(desk), 2), 1);
        Check.due("SIZE of =", desk.about(desk.atom(-1, c, c), 2), 3);
        Check.due("SIZE of NOT", desk.about(not(desk, atoms[1]), 2), 3);
        Check.due("SIZE of AND", desk.about(and(desk, atoms[0], atoms[1]), 2), 4);
        int all = desk.bind(false, c, atoms[2]);
        Check.due("SIZE of ALL", desk.about(all, 2), 4);
        Check.due("SIZE of a variable", desk.about(desk.part(desk.part(all, 0), 0), 2), 1);
    }

    /** Taken with SIZE 100, refused with SIZE 101. */
    private static void taken(ThesisDesk desk, String name, int got) {
        Check.due(name + " has SIZE 100", desk.about(got, 2), 100);
    }

    private static void refused(ThesisDesk desk, String name, Runnable call) {
        int forms = desk.count(0);
        Check.state(name + " would have SIZE 101", call);
        Check.due(name + " gave no form", desk.count(0), forms);
    }

    private static void sizeOfNot() {
        ThesisDesk desk = new ThesisDesk();
        int a = nullary(desk);
        int small = andOfSize(desk, a, 99);
        int large = and(desk, small, a);
        int notSmall = not(desk, small);
        taken(desk, "NOT of SIZE 99", notSmall);
        refused(desk, "NOT of SIZE 100", () -> desk.join(0, large, NONE));
        dueForm(desk, "NOT NOT of SIZE 99", not(desk, notSmall), small);
    }

    private static void sizeOfAnd() {
        ThesisDesk desk = new ThesisDesk();
        int a = nullary(desk);
        int c = desk.constant();
        int s98 = andOfSize(desk, a, 98);
        int s99 = and(desk, s98, a);
        int s100 = and(desk, s99, a);
        taken(desk, "an AND and one more", s100);
        taken(desk, "one more before an AND", and(desk, a, s99));
        refused(desk, "99 parts and one more", () -> desk.join(1, s100, a));
        refused(desk, "one more before 99 parts", () -> desk.join(1, a, s100));
        taken(desk, "two ANDS", and(desk, andOfSize(desk, a, 51), andOfSize(desk, a, 50)));
        int half = andOfSize(desk, a, 51);
        refused(desk, "two ANDS of 51", () -> desk.join(1, half, half));
        int all = desk.bind(false, c, andOfSize(desk, a, 97));
        Check.due("SIZE of an ALL", desk.about(all, 2), 98);
        taken(desk, "ALL and one more", and(desk, all, a));
        int large = desk.bind(false, c, s98);
        refused(desk, "ALL of 99 and one more", () -> desk.join(1, large, a));
    }

    private static void sizeOfOr() {
        ThesisDesk desk = new ThesisDesk();
        int a = nullary(desk);
        int b = not(desk, a);
        int f = andOfSize(desk, a, 95);
        int g = and(desk, f, a);
        // NOT AND of NOT f, NOT a: 1 + 1 + (1 + 95) + 2.
        taken(desk, "OR of 95 and 1", desk.join(2, f, a));
        taken(desk, "OR of 1 and 95", desk.join(2, a, f));
        refused(desk, "OR of 96 and 1", () -> desk.join(2, g, a));
        refused(desk, "OR of 1 and 96", () -> desk.join(2, a, g));
        // The NOT goes, so that there is room for one more.
        taken(desk, "OR of 96 and NOT", desk.join(2, g, b));
        int h = and(desk, g, a);
        refused(desk, "OR of 97 and NOT", () -> desk.join(2, h, b));
    }

    private static void sizeOfImplies() {
        ThesisDesk desk = new ThesisDesk();
        int a = nullary(desk);
        int s95 = andOfSize(desk, a, 95);
        int s96 = and(desk, s95, a);
        int s97 = and(desk, s96, a);
        // NOT AND of a, NOT g: 1 + 1 + 1 + (1 + 96); an AND that comes first gives its parts.
        taken(desk, "1 implies 96", implies(desk, a, s96));
        refused(desk, "1 implies 97", () -> desk.join(3, a, s97));
        taken(desk, "97 implies 1", implies(desk, s97, a));
        int s98 = and(desk, s97, a);
        refused(desk, "98 implies 1", () -> desk.join(3, s98, a));
        taken(desk, "98 implies NOT", implies(desk, s98, not(desk, a)));
        int s99 = and(desk, s98, a);
        int b = not(desk, a);
        refused(desk, "99 implies NOT", () -> desk.join(3, s99, b));
    }

    private static void sizeOfBothWays() {
        ThesisDesk desk = new ThesisDesk();
        int c = desk.constant();
        int a = nullary(desk);
        int f = andOfSize(desk, a, 46);
        // NOT AND of f's parts, NOT a: 49; NOT AND of a, NOT f: 50; and 1 for the AND of both.
        taken(desk, "46 both ways", desk.join(4, f, a));
        taken(desk, "46 both ways, turned", desk.join(4, a, f));
        int all = desk.bind(false, c, andOfSize(desk, a, 45));
        Check.due("SIZE of an ALL", desk.about(all, 2), 46);
        refused(desk, "an ALL of 46 both ways", () -> desk.join(4, all, a));
        refused(desk, "an ALL of 46 both ways, turned", () -> desk.join(4, a, all));
        int less = desk.bind(false, c, andOfSize(desk, a, 44));
        Check.due("SIZE of an ALL of 45 both ways", desk.about(desk.join(4, less, a), 2), 99);
    }

    private static void sizeOfBind() {
        ThesisDesk desk = new ThesisDesk();
        int c = desk.constant();
        int a = nullary(desk);
        int s97 = andOfSize(desk, a, 97);
        int s98 = and(desk, s97, a);
        int s99 = and(desk, s98, a);
        int s100 = and(desk, s99, a);
        taken(desk, "ALL of 99", desk.bind(false, c, s99));
        refused(desk, "ALL of 100", () -> desk.bind(false, c, s100));
        taken(desk, "some of 97", desk.bind(true, c, s97));
        refused(desk, "some of 98", () -> desk.bind(true, c, s98));
        taken(desk, "some of NOT 98", desk.bind(true, c, not(desk, s98)));
        int n = not(desk, s99);
        refused(desk, "some of NOT 99", () -> desk.bind(true, c, n));
    }

    /** Only what a call gives is measured, not what is made on the way. */
    private static void largeOnTheWay() {
        ThesisDesk desk = new ThesisDesk();
        int c = desk.constant();
        int a = nullary(desk);
        int t = truth(desk);
        int n = not(desk, t);
        int large = andOfSize(desk, a, 100);
        dueForm(desk, "large AND NOT TRUE", and(desk, large, n), n);
        dueForm(desk, "large OR TRUE", desk.join(2, large, t), t);
        dueForm(desk, "large OR NOT TRUE", desk.join(2, large, n), large);
        dueForm(desk, "TRUE implies large", implies(desk, t, large), large);
        dueForm(desk, "large implies TRUE", implies(desk, large, t), t);
        dueForm(desk, "NOT TRUE implies large", implies(desk, n, large), t);
        dueForm(desk, "TRUE and large both ways", desk.join(4, t, large), large);
        dueForm(desk, "large and TRUE both ways", desk.join(4, large, t), large);
        Check.state("large implies NOT TRUE", () -> desk.join(3, large, n));
        Check.state("large implies large", () -> desk.join(3, large, large));
        Check.state("large both ways", () -> desk.join(4, large, large));
        Check.state("some of large", () -> desk.bind(true, c, large));
    }

    // ---- promises 2 to 8 ----

    /** "of so many TERMS, 0 to 2 (else IllegalArgumentException)" */
    private static void termsOfPredicates() {
        ThesisDesk desk = new ThesisDesk();
        Check.argument("predicate(-1)", () -> desk.predicate(-1));
        Check.argument("predicate(3)", () -> desk.predicate(3));
        Check.due("none is there", desk.count(1), 0);
        int c = desk.constant();
        for (int many = 0; many <= 2; many++) {
            int p = desk.predicate(many);
            Check.due("predicate(" + many + ")", p, many);
            int f = desk.atom(p, many > 0 ? c : NONE, many > 1 ? c : NONE);
            Check.due("TERMS of it", desk.about(f, 1), many);
        }
    }

    /** "IllegalStateException: 30 are there." */
    private static void thirtyPredicates() {
        ThesisDesk desk = new ThesisDesk();
        for (int i = 0; i < 29; i++) {
            desk.predicate(1);
        }
        Check.due("the 30th", desk.predicate(2), 29);
        Check.state("the 31st", () -> desk.predicate(2));
        Check.state("the 31st again", () -> desk.predicate(0));
        Check.argument("of 3 TERMS, when 30 are there", () -> desk.predicate(3));
        Check.due("they stay 30", desk.count(1), 30);
        int c = desk.constant();
        Check.due("the last one is used", desk.about(desk.atom(29, c, c), 3), 29);
        Check.argument("none is behind it", () -> desk.atom(30, c, c));
        Check.due("the last one is defined", desk.define(29, truth(desk)), false);
    }

    /** "FORMULA f, in which LOCI below its many alone stand (else IllegalArgumentException)" */
    private static void lociOfDefinitions() {
        ThesisDesk desk = new ThesisDesk();
        int c = desk.constant();
        int[] loci = {desk.locus(0), desk.locus(1)};
        for (int many = 0; many <= 2; many++) {
            int p = desk.predicate(many);
            int a = desk.atom(-1, c, c);
            for (int i = 0; i <= 1; i++) {
                int f = and(desk, a, not(desk, desk.bind(false, c, desk.atom(-1, c, loci[i]))));
                if (i < many) {
                    desk.define(p, f);
                } else {
                    Check.argument("LOCUS " + i + " for " + many + " TERMS", () -> desk.define(p, f));
                }
            }
            Check.due("none was set by a refused call", desk.define(p, a), many > 0);
        }
        Check.due("the second LOCUS alone", desk.define(2, desk.atom(-1, loci[1], c)), true);
        Check.due("TRUE", desk.define(0, truth(desk)), true);
    }

    /** "as its DEFINITION from now on (in place of another one): whether it had one" */
    private static void definitionInPlaceOfAnother() {
        ThesisDesk desk = new ThesisDesk();
        int a = nullary(desk);
        int b = nullary(desk);
        int c = nullary(desk);
        int p = desk.predicate(0);
        int thesis = desk.atom(p, NONE, NONE);
        desk.proof(thesis);
        Check.due("before it has one", desk.thus(a), false);
        Check.due("it had none", desk.define(p, a), false);
        Check.due("it had one", desk.define(p, b), true);
        Check.due("it had one still", desk.define(p, b), true);
        Check.due("another has none", desk.define(0, c), false);
        Check.due("the former one", desk.thus(a), false);
        Check.argument("a refused one", () -> desk.define(p, -1));
        Check.due("from now on, in a proof that is open", desk.thus(b), true);
    }

    private static void constantsAreNew() {
        ThesisDesk desk = new ThesisDesk();
        int[] constants = {desk.constant(), desk.constant(), desk.constant()};
        for (int i = 0; i < 3; i++) {
            for (int j = 0; j < 3; j++) {
                Check.due("constants " + i + ", " + j, desk.alike(constants[i], constants[j]), i == j);
            }
        }
        Check.due("count(4)", desk.count(4), 3);
        desk.now();
        int d = desk.let();
        Check.due("let() counts", desk.count(4), 4);
        Check.due("let() is another one", desk.alike(d, constants[2]), false);
    }

    /** "LOCUS 0 or 1." */
    private static void lociAreTwo() {
        ThesisDesk desk = new ThesisDesk();
        Check.argument("locus(-1)", () -> desk.locus(-1));
        Check.argument("locus(2)", () -> desk.locus(2));
        Check.due("no form yet", desk.count(0), 0);
        Check.due("locus(0)", desk.about(desk.locus(0), 3), 0);
        Check.due("locus(1)", desk.about(desk.locus(1), 3), 1);
    }

    /** "PREDICATE p of as many TERMS as it has (the others -1); p -1: s = t." */
    private static void otherTermsAreNone() {
        ThesisDesk desk = new ThesisDesk();
        int c = desk.constant();
        int d = desk.constant();
        int[] p = {desk.predicate(0), desk.predicate(1), desk.predicate(2)};
        Check.argument("a TERM too many for 0", () -> desk.atom(p[0], c, NONE));
        Check.argument("a second TERM too many for 0", () -> desk.atom(p[0], NONE, c));
        Check.argument("-2 for none", () -> desk.atom(p[0], NONE, -2));
        Check.argument("a TERM too few for 1", () -> desk.atom(p[1], NONE, NONE));
        Check.argument("a TERM too many for 1", () -> desk.atom(p[1], c, d));
        Check.argument("the second for the first", () -> desk.atom(p[1], NONE, d));
        Check.argument("a TERM too few for 2", () -> desk.atom(p[2], c, NONE));
        Check.argument("the first TERM missing", () -> desk.atom(p[2], NONE, d));
        Check.argument("= without the second", () -> desk.atom(-1, c, NONE));
        Check.argument("= without both", () -> desk.atom(-1, NONE, NONE));
        Check.argument("p -2", () -> desk.atom(-2, c, d));
        Check.due("no form came", desk.count(0), 2);
        int equal = desk.atom(-1, c, d);
        Check.due("p -1", desk.about(equal, 0), 4);
        dueForm(desk, "s", desk.part(equal, 0), c);
        dueForm(desk, "t", desk.part(equal, 1), d);
        int f = desk.atom(p[2], d, c);
        dueForm(desk, "the first TERM", desk.part(f, 0), d);
        dueForm(desk, "the second TERM", desk.part(f, 1), c);
    }

    /** Kinds 0 to 5, with -1 where no formula stands; "IllegalArgumentException for another kind." */
    private static void kindsOfJoin() {
        ThesisDesk desk = new ThesisDesk();
        int a = nullary(desk);
        int b = nullary(desk);
        Check.argument("kind -1", () -> desk.join(-1, a, b));
        Check.argument("kind 6", () -> desk.join(6, a, b));
        Check.argument("kind 0 with g", () -> desk.join(0, a, b));
        Check.argument("kind 0 with g -2", () -> desk.join(0, a, -2));
        Check.argument("kind 5 with f", () -> desk.join(5, a, NONE));
        Check.argument("kind 5 with g", () -> desk.join(5, NONE, b));
        Check.argument("kind 5 with both", () -> desk.join(5, a, b));
        Check.argument("kind 5 with -2", () -> desk.join(5, -2, NONE));
        for (int kind = 1; kind <= 4; kind++) {
            int k = kind;
            Check.argument("kind " + k + " without g", () -> desk.join(k, a, NONE));
            Check.argument("kind " + k + " without f", () -> desk.join(k, NONE, b));
        }
        Check.due("no form came", desk.count(0), 2);
        int[] due = {6, 7, 6, 6, 7, 3};
        for (int kind = 0; kind <= 5; kind++) {
            int made = desk.join(kind, kind < 5 ? a : NONE, kind > 0 && kind < 5 ? b : NONE);
            Check.due("what kind " + kind + " makes", desk.about(made, 0), due[kind]);
        }
        int both = desk.join(4, a, b);
        dueForm(desk, "f, g first", desk.part(both, 0), implies(desk, a, b));
        dueForm(desk, "then g, f", desk.part(both, 1), implies(desk, b, a));
    }

    private static void bindWhatIsNotThere() {
        ThesisDesk desk = new ThesisDesk();
        int c = desk.constant();
        int a = nullary(desk);
        int all = desk.bind(false, c, a);
        Check.due("ALL of what it does not speak of", desk.about(all, 0), 8);
        Check.due("its SIZE", desk.about(all, 2), 2);
        dueForm(desk, "what it speaks of", desk.part(all, 0), a);
        int x = desk.locus(0);
        int open = desk.bind(false, c, desk.atom(-1, x, c));
        dueForm(desk, "LOCI stay", desk.part(desk.part(open, 0), 0), x);
        Check.argument("a LOCUS is not bound", () -> desk.bind(false, x, a));
    }

    private static void bindBoundAlready() {
        ThesisDesk desk = new ThesisDesk();
        int c = desk.constant();
        int d = desk.constant();
        int p = desk.predicate(1);
        int once = desk.bind(false, c, desk.atom(p, c, NONE));
        int twice = desk.bind(false, c, once);
        dueForm(desk, "the inner ALL has it", desk.part(twice, 0), once);
        dueForm(desk, "the outer ALL has none", twice, desk.bind(false, d, once));
        int both = desk.bind(false, c, and(desk, once, desk.atom(p, c, NONE)));
        int body = desk.part(both, 0);
        Check.due("its own in the inner ALL", desk.about(desk.part(desk.part(desk.part(body, 0), 0), 0), 3), 0);
        Check.due("the outer's beside it", desk.about(desk.part(desk.part(body, 1), 0), 3), 0);
    }

    // ---- promises 22 to 25 ----

    private static void aboutKinds() {
        ThesisDesk desk = new ThesisDesk();
        int c = desk.constant();
        desk.predicate(0);
        int p = desk.predicate(2);
        int f = desk.atom(p, c, c);
        int all = desk.bind(false, c, f);
        // A form, its kind, how many parts and TERMS, its SIZE, its mark.
        int[][] rows = {
            {c, 0, 0, 1, -1}, {desk.locus(0), 1, 0, 1, 0}, {desk.locus(1), 1, 0, 1, 1},
            {desk.part(desk.part(all, 0), 0), 2, 0, 1, 0}, {truth(desk), 3, 0, 1, -1},
            {desk.atom(-1, c, c), 4, 2, 3, -1}, {f, 5, 2, 3, p}, {desk.atom(0, NONE, NONE), 5, 0, 1, 0},
            {not(desk, f), 6, 1, 4, -1}, {and(desk, f, f), 7, 2, 7, -1}, {many(desk, f, 33), 7, 33, 100, -1},
            {all, 8, 1, 4, -1},
        };
        for (int[] row : rows) {
            for (int what = 0; what <= 3; what++) {
                Check.due("about(kind " + row[1] + ", " + what + ")", desk.about(row[0], what), row[what + 1]);
            }
        }
    }

    /** "else -1": read of every other question, since no exception is told for it. */
    private static void aboutOtherQuestions() {
        ThesisDesk desk = new ThesisDesk();
        int f = nullary(desk);
        for (int what : new int[] {-1, 4, Integer.MIN_VALUE, Integer.MAX_VALUE}) {
            Check.due("about(f, " + what + ")", desk.about(f, what), -1);
        }
    }

    /** "of a bound variable how many ALLS stand between it and its own" */
    private static void allsBetween() {
        ThesisDesk desk = new ThesisDesk();
        int p = desk.predicate(1);
        int c = desk.constant();
        int f = desk.atom(p, c, NONE);
        for (int between = 0; between <= 97; between++) {
            if (between > 0) {
                f = desk.bind(false, desk.constant(), f);
            }
            if (between == 0 || between == 1 || between == 2 || between == 97) {
                int variable = innermost(desk, desk.bind(false, c, f));
                Check.due(between + " ALLS between", desk.about(variable, 3), between);
            }
        }
        int d = desk.constant();
        int inner = desk.bind(false, d, desk.atom(-1, c, d));
        int mixed = desk.bind(false, c, not(desk, and(desk, desk.atom(p, c, NONE), inner)));
        int equal = desk.part(desk.part(desk.part(desk.part(mixed, 0), 0), 1), 0);
        Check.due("behind NOT and AND: the outer's", desk.about(desk.part(equal, 0), 3), 1);
        Check.due("behind NOT and AND: its own", desk.about(desk.part(equal, 1), 3), 0);
    }

    private static int innermost(ThesisDesk desk, int all) {
        int at = all;
        while (desk.about(at, 1) > 0) {
            at = desk.part(at, 0);
        }
        return at;
    }

    /** "The FORM of part or TERM i (what ALL speaks of: 0 ..). IllegalArgumentException: there is none." */
    private static void firstAndLastPart() {
        ThesisDesk desk = new ThesisDesk();
        int c = desk.constant();
        int d = desk.constant();
        int p = desk.predicate(1);
        int q = desk.predicate(2);
        int a = nullary(desk);
        int b = desk.atom(p, d, NONE);
        int three = and(desk, and(desk, a, b), not(desk, a));
        int[][] rows = {
            {c}, {desk.locus(1)}, {truth(desk)}, {a}, {b, d}, {desk.atom(q, c, d), c, d}, {desk.atom(-1, d, c), d, c},
            {not(desk, b), b}, {three, a, b, not(desk, a)}, {desk.bind(false, c, b), b},
        };
        for (int[] row : rows) {
            int x = row[0];
            int many = row.length - 1;
            for (int i = 0; i < many; i++) {
                dueForm(desk, "part(" + x + ", " + i + ")", desk.part(x, i), row[i + 1]);
            }
            Check.argument("part(" + x + ", -1)", () -> desk.part(x, -1));
            Check.argument("part(" + x + ", " + many + ")", () -> desk.part(x, many));
        }
        int full = many(desk, a, 98);
        int last = and(desk, full, not(desk, truth(desk)));
        Check.due("NOT TRUE has one part", desk.about(last, 1), 1);
        int large = and(desk, many(desk, a, 97), desk.bind(false, c, truth(desk)));
        Check.due("97 parts", desk.about(large, 1), 97);
        dueForm(desk, "part 96 of 97", desk.part(large, 96), a);
        Check.argument("part 97 of 97", () -> desk.part(large, 97));
    }

    /** "bound variables stay as they are" */
    private static void variablesStayAsTheyAre() {
        ThesisDesk desk = new ThesisDesk();
        int c = desk.constant();
        int d = desk.constant();
        int q = desk.predicate(2);
        int all = desk.bind(false, c, desk.bind(false, d, and(desk, desk.atom(q, c, d), desk.atom(q, d, c))));
        int body = desk.part(desk.part(all, 0), 0);
        int first = desk.part(body, 0);
        int second = desk.part(body, 1);
        int[] due = {1, 0, 0, 1};
        int[] variables = {desk.part(first, 0), desk.part(first, 1), desk.part(second, 0), desk.part(second, 1)};
        for (int i = 0; i < 4; i++) {
            Check.due("kind of variable " + i, desk.about(variables[i], 0), 2);
            Check.due("ALLS between " + i, desk.about(variables[i], 3), due[i]);
        }
        Check.due("the same variable twice", desk.alike(variables[0], variables[3]), true);
        Check.due("two variables", desk.alike(variables[0], variables[1]), false);
        Check.due("atoms of them turned", desk.alike(first, second), false);
    }

    /** "what 0: FORMS .. 4: constants. IllegalArgumentException for another what." */
    private static void countsFromZeroToFour() {
        ThesisDesk desk = new ThesisDesk();
        int a = nullary(desk);
        desk.predicate(1);
        desk.constant();
        desk.locus(0);
        desk.proof(a);
        desk.now();
        desk.proof(a);
        desk.take(1);
        desk.let();
        desk.given(1, a);
        desk.assume(a);
        desk.thus(a);
        int[] due = {4, 2, 3, 4, 2};
        for (int what = 0; what <= 4; what++) {
            Check.due("count(" + what + ")", desk.count(what), due[what]);
        }
        desk.end();
        desk.part(desk.atom(-1, 1, 1), 0);
        Check.due("blocks open behind an end", desk.count(2), 2);
        Check.due("steps that did not FIT behind an end", desk.count(3), 4);
        Check.due("a part is a FORM", desk.count(0), 6);
        Check.due("but no new constant", desk.count(4), 2);
        Check.argument("count(-1)", () -> desk.count(-1));
        Check.argument("count(5)", () -> desk.count(5));
    }
}
