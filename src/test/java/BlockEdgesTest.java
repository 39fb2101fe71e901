/** Edges of BLOCKS, CASES, what a NOW says, and the last of 512 calls: Terms 2, promises 9, 10 and 17 to 21. */
public final class BlockEdgesTest extends Make {
    public static void main(String[] args) {
        fortyProofs();
        fortyNows();
        fortyCases();
        innermostIsOpen();
        nothingIsLeftOrSomething();
        stepsOfNowFitAlways();
        notInANow();
        casesBeginOnce();
        noStepWhileItWaits();
        caseShowsTheThesis();
        caseOfACase();
        endWithoutCases();
        endWithCases();
        blocksWithinACase();
        newBlocksAreNew();
        thesisOfEach();
        waysInOrder();
        waysShort();
        waysSizes();
        waysOfTheOpenBlock();
        nowWithoutSteps();
        nowFromLastToFirst();
        nowLets();
        nowGivens();
        nowShort();
        nowStepsOfItsOwn();
        nowIsANewForm();
        nowSizes();
        nowTooLargeStaysOpen();
        nowLargeOnTheWay();
        lastOf512Calls();
        Check.finish();
    }

    // ---- "how many blocks are open", "40 are" ----

    private static void fortyProofs() {
        ThesisDesk desk = new ThesisDesk();
        int a = nullary(desk);
        for (int i = 1; i <= 39; i++) {
            Check.due("proof", desk.proof(a), i);
        }
        Check.due("the 40th proof", desk.proof(a), 40);
        Check.state("the 41st proof", () -> desk.proof(a));
        Check.state("a NOW as the 41st", desk::now);
        Check.due("they stay 40", desk.count(2), 40);
        Check.due("steps go on", desk.thus(a), true);
        Check.due("the 40th ends", desk.end(), 1);
        Check.due("there is room again", desk.proof(a), 40);
        for (int i = 39; i >= 0; i--) {
            Check.due("end", desk.end(), 0);
            Check.due("blocks open", desk.count(2), i);
        }
        Check.state("none is open", desk::end);
        Check.due("the first again", desk.proof(a), 1);
    }

    private static void fortyNows() {
        ThesisDesk desk = new ThesisDesk();
        int a = nullary(desk);
        for (int i = 1; i <= 40; i++) {
            Check.due("now()", desk.now(), i);
        }
        Check.state("the 41st NOW", desk::now);
        Check.state("a PROOF as the 41st", () -> desk.proof(a));
        Check.due("steps go on", desk.thus(a), true);
        dueForm(desk, "the 40th says", -2 - desk.end(), a);
        dueForm(desk, "the 39th says", -2 - desk.end(), truth(desk));
        Check.due("there is room again", desk.now(), 39);
    }

    private static void fortyCases() {
        ThesisDesk desk = new ThesisDesk();
        int a = nullary(desk);
        desk.proof(a);
        for (int i = 2; i <= 40; i++) {
            desk.cases();
            Check.due("suppose", desk.suppose(a), i);
        }
        desk.cases();
        Check.state("the 41st block, a CASE", () -> desk.suppose(a));
        dueForm(desk, "it is no way", desk.ways(), not(desk, truth(desk)));
        Check.due("nor a CASE that it had", desk.end(), 0);
        Check.due("there is room again", desk.suppose(a), 40);
    }

    /** "BLOCKS lie in one another; the innermost is the OPEN one." */
    private static void innermostIsOpen() {
        ThesisDesk desk = new ThesisDesk();
        int a = nullary(desk);
        int b = nullary(desk);
        int ab = and(desk, a, b);
        desk.proof(ab);
        desk.thus(a);
        desk.proof(ab);
        Check.due("a step of the inner one", desk.thus(a), true);
        Check.due("another one", desk.thus(ab), false);
        dueForm(desk, "the inner thesis", desk.thesis(), b);
        desk.now();
        desk.thus(b);
        desk.end();
        dueForm(desk, "a NOW changes no thesis", desk.thesis(), b);
        Check.due("the inner one ends", desk.end(), 0);
        dueForm(desk, "the outer thesis", desk.thesis(), b);
        Check.due("a step of the outer one", desk.thus(b), true);
        Check.due("the outer one ends", desk.end(), 1);
    }

    /** "What is still to be shown is TRUE at the end, or something is left." */
    private static void nothingIsLeftOrSomething() {
        ThesisDesk desk = new ThesisDesk();
        int c = desk.constant();
        int a = nullary(desk);
        int t = truth(desk);
        int[] left = {a, not(desk, t), not(desk, a), and(desk, a, a), desk.bind(false, c, a), desk.atom(-1, c, c)};
        for (int f : left) {
            desk.proof(f);
            Check.due("end() of kind " + desk.about(f, 0), desk.end(), 0);
        }
        desk.proof(t);
        Check.due("end() of TRUE", desk.end(), 1);
        desk.proof(a);
        desk.assume(not(desk, a));
        Check.due("NOT TRUE is left", desk.end(), 0);
        desk.proof(a);
        desk.assume(not(desk, a));
        desk.thus(not(desk, t));
        Check.due("it was shown", desk.end(), 1);
    }

    // ---- "a NOW has none, its steps fit always" ----

    private static void stepsOfNowFitAlways() {
        ThesisDesk desk = new ThesisDesk();
        int c = desk.constant();
        int a = nullary(desk);
        int n = not(desk, truth(desk));
        desk.proof(a);
        desk.thus(n);
        desk.now();
        for (int f : new int[] {a, n, not(desk, a), and(desk, a, a)}) {
            Check.due("assume", desk.assume(f), true);
            Check.due("thus", desk.thus(f), true);
            Check.due("given", desk.given(c, f), true);
            desk.let();
            Check.due("fit()", desk.fit(), true);
            dueForm(desk, "its thesis", desk.thesis(), truth(desk));
        }
        Check.due("steps that did not FIT", desk.count(3), 1);
    }

    /** "(TAKE, CASES do not stand in a NOW that is the OPEN block: IllegalStateException.)" */
    private static void notInANow() {
        ThesisDesk desk = new ThesisDesk();
        int c = desk.constant();
        int a = nullary(desk);
        int some = desk.bind(true, c, a);
        desk.proof(some);
        desk.now();
        Check.state("take in a NOW", () -> desk.take(c));
        Check.state("cases in a NOW", desk::cases);
        Check.state("suppose in a NOW", () -> desk.suppose(a));
        Check.state("ways in a NOW", desk::ways);
        Check.due("fit() is as it was", desk.fit(), true);
        desk.proof(some);
        Check.due("take in a PROOF in a NOW", desk.take(c), true);
        desk.cases();
        Check.due("a CASE in a PROOF in a NOW", desk.suppose(a), 4);
        desk.end();
        desk.end();
        dueForm(desk, "the NOW says", -2 - desk.end(), truth(desk));
        Check.due("take in the PROOF around it", desk.take(c), true);
        desk.cases();
        Check.due("a CASE in it", desk.suppose(a), 2);
    }

    // ---- CASES ----

    /** "The OPEN PROOF or CASE waits for CASES from now on. IllegalStateException: .. it does already." */
    private static void casesBeginOnce() {
        ThesisDesk desk = new ThesisDesk();
        int a = nullary(desk);
        Check.state("cases() without a block", desk::cases);
        desk.proof(a);
        Check.state("suppose before cases()", () -> desk.suppose(a));
        Check.state("ways before cases()", desk::ways);
        desk.cases();
        Check.state("cases() again", desk::cases);
        desk.suppose(a);
        Check.state("suppose in a CASE that does not wait", () -> desk.suppose(a));
        desk.cases();
        Check.state("cases() of a CASE again", desk::cases);
        desk.end();
        Check.state("cases() behind a CASE", desk::cases);
        Check.due("it waits still", desk.suppose(a), 2);
    }

    private static void noStepWhileItWaits() {
        ThesisDesk desk = new ThesisDesk();
        int c = desk.constant();
        int a = nullary(desk);
        desk.proof(a);
        desk.cases();
        for (int round = 0; round < 2; round++) {
            Check.state("let()", desk::let);
            Check.state("assume", () -> desk.assume(a));
            Check.state("thus", () -> desk.thus(a));
            Check.state("take", () -> desk.take(c));
            Check.state("given", () -> desk.given(c, a));
            Check.state("proof", () -> desk.proof(a));
            Check.state("now", desk::now);
            desk.suppose(a);
            desk.end();
        }
        Check.due("no step was made", desk.fit(), true);
        Check.due("none that did not FIT", desk.count(3), 0);
        Check.due("no constant came", desk.count(4), 1);
        dueForm(desk, "its thesis", desk.thesis(), a);
    }

    /** "a CASE shows THE THESIS that the PROOF or CASE around it had when its CASES began" */
    private static void caseShowsTheThesis() {
        ThesisDesk desk = new ThesisDesk();
        int a = nullary(desk);
        int b = nullary(desk);
        int c = nullary(desk);
        int bc = and(desk, b, c);
        desk.proof(and(desk, a, bc));
        desk.thus(a);
        desk.cases();
        desk.suppose(a);
        dueForm(desk, "the first CASE's thesis", desk.thesis(), bc);
        desk.thus(b);
        dueForm(desk, "behind a step", desk.thesis(), c);
        Check.due("something is left", desk.end(), 0);
        dueForm(desk, "the PROOF's thesis", desk.thesis(), bc);
        desk.suppose(c);
        dueForm(desk, "the second CASE's thesis", desk.thesis(), bc);
        desk.thus(bc);
        Check.due("nothing is left", desk.end(), 1);
        dueForm(desk, "the PROOF's thesis then", desk.thesis(), bc);
        Check.due("one of two was left", desk.end(), 0);
    }

    private static void caseOfACase() {
        ThesisDesk desk = new ThesisDesk();
        int a = nullary(desk);
        int b = nullary(desk);
        int ab = and(desk, a, b);
        desk.proof(ab);
        desk.cases();
        desk.suppose(a);
        desk.thus(a);
        desk.cases();
        Check.due("a CASE in a CASE", desk.suppose(b), 3);
        dueForm(desk, "its thesis is the CASE's", desk.thesis(), b);
        desk.thus(b);
        Check.due("the inner one", desk.end(), 1);
        dueForm(desk, "the ways of the CASE", desk.ways(), b);
        Check.due("the CASE around it", desk.end(), 1);
        dueForm(desk, "the ways of the PROOF", desk.ways(), a);
        desk.suppose(b);
        dueForm(desk, "the next CASE's thesis", desk.thesis(), ab);
        desk.cases();
        desk.suppose(b);
        Check.due("left in the inner one", desk.end(), 0);
        desk.suppose(b);
        desk.thus(ab);
        Check.due("not in the next one", desk.end(), 1);
        Check.due("left in the CASE around", desk.end(), 0);
        Check.due("left in the PROOF", desk.end(), 0);
    }

    /** "(of one that waits for CASES: 1 if it had some ..)" */
    private static void endWithoutCases() {
        ThesisDesk desk = new ThesisDesk();
        int a = nullary(desk);
        int t = truth(desk);
        for (int f : new int[] {a, t}) {
            desk.proof(f);
            desk.cases();
            Check.due("a PROOF that had none", desk.end(), 0);
        }
        desk.proof(t);
        desk.cases();
        desk.suppose(a);
        Check.due("a CASE of TRUE", desk.end(), 1);
        Check.due("a PROOF of TRUE that had one", desk.end(), 1);
        desk.proof(t);
        desk.cases();
        desk.suppose(a);
        desk.cases();
        Check.due("a CASE that had none", desk.end(), 0);
        Check.due("the PROOF around it", desk.end(), 0);
        desk.proof(t);
        desk.cases();
        Check.argument("a CASE that did not begin", () -> desk.suppose(-1));
        Check.due("is none that it had", desk.end(), 0);
    }

    /** "1 if it had some and nothing was left in any of them" */
    private static void endWithCases() {
        ThesisDesk desk = new ThesisDesk();
        int a = nullary(desk);
        for (int many = 1; many <= 3; many++) {
            for (int shown = 0; shown < 1 << many; shown++) {
                desk.proof(a);
                desk.cases();
                for (int i = 0; i < many; i++) {
                    desk.suppose(a);
                    if ((shown >> i & 1) == 1) {
                        desk.thus(a);
                    }
                    Check.due("the CASE", desk.end(), shown >> i & 1);
                }
                Check.due("of " + many + " CASES " + shown, desk.end(), shown == (1 << many) - 1 ? 1 : 0);
            }
        }
    }

    private static void blocksWithinACase() {
        ThesisDesk desk = new ThesisDesk();
        int a = nullary(desk);
        desk.proof(a);
        desk.cases();
        desk.suppose(a);
        desk.proof(a);
        Check.due("a PROOF within it", desk.end(), 0);
        desk.now();
        desk.end();
        desk.thus(a);
        Check.due("nothing is left in the CASE", desk.end(), 1);
        Check.due("nor in the PROOF around", desk.end(), 1);
        desk.proof(a);
        desk.proof(a);
        desk.cases();
        desk.suppose(a);
        desk.end();
        Check.due("the inner PROOF", desk.end(), 0);
        desk.thus(a);
        Check.due("the outer PROOF", desk.end(), 1);
    }

    /** A block that begins knows nothing of one that ended before it. */
    private static void newBlocksAreNew() {
        ThesisDesk desk = new ThesisDesk();
        int a = nullary(desk);
        desk.proof(a);
        desk.cases();
        desk.suppose(a);
        desk.end();
        desk.end();
        desk.proof(a);
        Check.state("it does not wait", desk::ways);
        desk.cases();
        dueForm(desk, "it had no CASES", desk.ways(), not(desk, truth(desk)));
        desk.suppose(a);
        desk.thus(a);
        desk.end();
        Check.due("none was left in", desk.end(), 1);
        desk.now();
        desk.thus(a);
        desk.end();
        desk.now();
        dueForm(desk, "it had no steps", -2 - desk.end(), truth(desk));
        desk.proof(a);
        desk.cases();
        Check.due("it had none", desk.end(), 0);
    }

    /** "FORM of THE THESIS (of a block that waits for CASES: as it was; of a NOW TRUE)." */
    private static void thesisOfEach() {
        ThesisDesk desk = new ThesisDesk();
        int a = nullary(desk);
        int b = nullary(desk);
        int ab = and(desk, a, b);
        Check.state("of no block", desk::thesis);
        desk.proof(ab);
        dueForm(desk, "at first", desk.thesis(), ab);
        desk.thus(b);
        dueForm(desk, "behind a step that did not FIT", desk.thesis(), ab);
        desk.thus(a);
        dueForm(desk, "behind a step", desk.thesis(), b);
        desk.cases();
        dueForm(desk, "of one that waits", desk.thesis(), b);
        desk.suppose(a);
        desk.thus(b);
        dueForm(desk, "of a CASE", desk.thesis(), truth(desk));
        desk.end();
        dueForm(desk, "behind a CASE, as it was", desk.thesis(), b);
        desk.end();
        Check.state("of no block any more", desk::thesis);
        desk.now();
        dueForm(desk, "of a NOW", desk.thesis(), truth(desk));
        desk.assume(a);
        dueForm(desk, "of a NOW behind a step", desk.thesis(), truth(desk));
        desk.end();
        int large = andOfSize(desk, a, 100);
        desk.proof(large);
        dueForm(desk, "of SIZE 100", desk.thesis(), large);
    }

    // ---- "NOT AND of NOT each FORMULA, in order (none: NOT TRUE)" ----

    private static void supposeAndEnd(ThesisDesk desk, int f) {
        desk.suppose(f);
        desk.end();
    }

    private static void waysInOrder() {
        ThesisDesk desk = new ThesisDesk();
        int a = nullary(desk);
        int b = nullary(desk);
        int c = nullary(desk);
        desk.proof(a);
        desk.cases();
        dueForm(desk, "none", desk.ways(), not(desk, truth(desk)));
        supposeAndEnd(desk, b);
        dueForm(desk, "one", desk.ways(), b);
        supposeAndEnd(desk, c);
        dueForm(desk, "two", desk.ways(), desk.join(2, b, c));
        supposeAndEnd(desk, b);
        int three = desk.ways();
        dueForm(desk, "three", three, not(desk, and(desk, and(desk, not(desk, b), not(desk, c)), not(desk, b))));
        dueForm(desk, "asked again", desk.ways(), three);
    }

    private static void waysShort() {
        ThesisDesk desk = new ThesisDesk();
        int a = nullary(desk);
        int b = nullary(desk);
        int t = truth(desk);
        desk.proof(a);
        desk.cases();
        supposeAndEnd(desk, not(desk, t));
        dueForm(desk, "NOT TRUE is no way", desk.ways(), not(desk, t));
        supposeAndEnd(desk, not(desk, a));
        dueForm(desk, "NOT a", desk.ways(), not(desk, a));
        supposeAndEnd(desk, not(desk, and(desk, a, b)));
        dueForm(desk, "parts flow in", desk.ways(), not(desk, and(desk, and(desk, a, a), b)));
        supposeAndEnd(desk, and(desk, a, b));
        int due = not(desk, and(desk, and(desk, and(desk, a, a), b), not(desk, and(desk, a, b))));
        dueForm(desk, "an AND is one way", desk.ways(), due);
        supposeAndEnd(desk, t);
        dueForm(desk, "TRUE is all", desk.ways(), t);
        supposeAndEnd(desk, a);
        dueForm(desk, "and stays so", desk.ways(), t);
    }

    private static void waysSizes() {
        ThesisDesk desk = new ThesisDesk();
        int a = nullary(desk);
        int s95 = andOfSize(desk, a, 95);
        int s96 = and(desk, s95, a);
        int large = andOfSize(desk, a, 100);
        desk.proof(a);
        desk.cases();
        supposeAndEnd(desk, s95);
        supposeAndEnd(desk, a);
        Check.due("SIZE 100", desk.about(desk.ways(), 2), 100);
        desk.end();
        desk.proof(a);
        desk.cases();
        supposeAndEnd(desk, a);
        supposeAndEnd(desk, s96);
        int forms = desk.count(0);
        Check.state("SIZE 101", desk::ways);
        Check.due("no form came", desk.count(0), forms);
        Check.due("it waits still", desk.suppose(truth(desk)), 2);
        desk.end();
        dueForm(desk, "with TRUE it is short", desk.ways(), truth(desk));
        desk.end();
        desk.proof(a);
        desk.cases();
        supposeAndEnd(desk, large);
        dueForm(desk, "one of SIZE 100", desk.ways(), large);
        for (int i = 0; i < 4; i++) {
            supposeAndEnd(desk, large);
            Check.state("more of SIZE 100", desk::ways);
        }
    }

    /** "IllegalStateException: it does not wait for CASES." */
    private static void waysOfTheOpenBlock() {
        ThesisDesk desk = new ThesisDesk();
        int a = nullary(desk);
        int b = nullary(desk);
        Check.state("no block", desk::ways);
        desk.proof(a);
        Check.state("a PROOF", desk::ways);
        desk.cases();
        desk.suppose(b);
        Check.state("a CASE", desk::ways);
        desk.now();
        Check.state("a NOW", desk::ways);
        desk.end();
        desk.proof(a);
        desk.cases();
        desk.suppose(a);
        desk.end();
        dueForm(desk, "of the inner PROOF", desk.ways(), a);
        desk.end();
        desk.end();
        dueForm(desk, "of the outer PROOF", desk.ways(), b);
        desk.suppose(a);
        Check.state("of a CASE that is open", desk::ways);
        desk.end();
        dueForm(desk, "a CASE counts once it began", desk.ways(), desk.join(2, b, a));
        desk.end();
        Check.state("no block any more", desk::ways);
    }

    // ---- "What a NOW says, from its last step to the first, beginning with TRUE" ----

    private static int says(ThesisDesk desk) {
        return -2 - desk.end();
    }

    private static void nowWithoutSteps() {
        ThesisDesk desk = new ThesisDesk();
        int a = nullary(desk);
        desk.now();
        dueForm(desk, "no step", says(desk), truth(desk));
        desk.now();
        desk.assume(a);
        dueForm(desk, "ASSUME alone", says(desk), truth(desk));
        desk.now();
        desk.let();
        dueForm(desk, "LET alone", says(desk), truth(desk));
        desk.now();
        int c = desk.constant();
        desk.given(c, a);
        dueForm(desk, "GIVEN alone", says(desk), truth(desk));
        desk.now();
        desk.thus(a);
        dueForm(desk, "THUS alone", says(desk), a);
    }

    private static void nowFromLastToFirst() {
        ThesisDesk desk = new ThesisDesk();
        int a = nullary(desk);
        int b = nullary(desk);
        int c = nullary(desk);
        desk.now();
        desk.thus(a);
        desk.thus(b);
        desk.thus(c);
        dueForm(desk, "three THUS", says(desk), and(desk, and(desk, a, b), c));
        desk.now();
        desk.assume(a);
        desk.assume(b);
        desk.thus(c);
        dueForm(desk, "two ASSUMES", says(desk), not(desk, and(desk, and(desk, a, b), not(desk, c))));
        desk.now();
        desk.thus(a);
        desk.assume(b);
        desk.thus(c);
        dueForm(desk, "THUS, ASSUME, THUS", says(desk), and(desk, a, implies(desk, b, c)));
        desk.now();
        desk.assume(a);
        desk.thus(b);
        desk.assume(c);
        dueForm(desk, "an ASSUME at the end", says(desk), implies(desk, a, b));
        desk.now();
        desk.assume(a);
        desk.thus(and(desk, b, c));
        dueForm(desk, "ASSUME, THUS of an AND", says(desk), implies(desk, a, and(desk, b, c)));
    }

    /** "LET: ALL of it with that constant bound" */
    private static void nowLets() {
        ThesisDesk desk = new ThesisDesk();
        int p = desk.predicate(2);
        desk.now();
        int c = desk.let();
        int d = desk.let();
        int f = desk.atom(p, c, d);
        desk.thus(f);
        int due = desk.bind(false, c, desk.bind(false, d, f));
        dueForm(desk, "two LETS", says(desk), due);
        desk.now();
        desk.thus(f);
        int e = desk.let();
        int g = desk.atom(p, e, c);
        desk.assume(g);
        desk.thus(desk.atom(p, e, e));
        int behind = desk.bind(false, e, implies(desk, g, desk.atom(p, e, e)));
        dueForm(desk, "what stands before LET is not bound", says(desk), and(desk, f, behind));
        desk.now();
        desk.let();
        desk.thus(f);
        Check.due("an ALL of nothing", desk.about(says(desk), 0), 8);
    }

    /** "GIVEN A with c: NOT AND of A, NOT it, then ALL of that with c bound." */
    private static void nowGivens() {
        ThesisDesk desk = new ThesisDesk();
        int c = desk.constant();
        int p = desk.predicate(1);
        int f = desk.atom(p, c, NONE);
        int a = nullary(desk);
        desk.now();
        desk.given(c, f);
        desk.thus(a);
        dueForm(desk, "A alone speaks of c", says(desk), desk.bind(false, c, implies(desk, f, a)));
        desk.now();
        desk.given(c, a);
        desk.thus(f);
        dueForm(desk, "what follows speaks of c", says(desk), desk.bind(false, c, implies(desk, a, f)));
        desk.now();
        desk.given(c, f);
        desk.given(c, f);
        desk.thus(f);
        int inner = desk.bind(false, c, implies(desk, f, f));
        dueForm(desk, "two of one constant", says(desk), desk.bind(false, c, implies(desk, f, inner)));
        desk.now();
        desk.given(c, truth(desk));
        desk.thus(f);
        dueForm(desk, "of TRUE", says(desk), desk.bind(false, c, f));
        desk.now();
        desk.given(c, not(desk, truth(desk)));
        desk.thus(f);
        dueForm(desk, "of NOT TRUE", says(desk), truth(desk));
    }

    private static void nowShort() {
        ThesisDesk desk = new ThesisDesk();
        int a = nullary(desk);
        int t = truth(desk);
        int n = not(desk, t);
        desk.now();
        desk.assume(a);
        desk.thus(n);
        dueForm(desk, "a contradiction", says(desk), not(desk, a));
        desk.now();
        desk.thus(t);
        desk.assume(t);
        desk.thus(a);
        dueForm(desk, "TRUE ones go", says(desk), a);
        desk.now();
        desk.thus(a);
        desk.thus(n);
        dueForm(desk, "NOT TRUE takes all", says(desk), n);
        desk.now();
        desk.let();
        desk.thus(n);
        Check.due("ALL of NOT TRUE stays", desk.about(says(desk), 2), 3);
        desk.now();
        desk.assume(not(desk, a));
        desk.assume(not(desk, a));
        desk.thus(a);
        int due = not(desk, and(desk, and(desk, not(desk, a), not(desk, a)), not(desk, a)));
        dueForm(desk, "NOT NOT goes", says(desk), due);
    }

    /** "Steps of blocks within count for those alone." */
    private static void nowStepsOfItsOwn() {
        ThesisDesk desk = new ThesisDesk();
        int a = nullary(desk);
        int b = nullary(desk);
        int c = nullary(desk);
        desk.now();
        desk.thus(a);
        desk.now();
        desk.thus(b);
        desk.proof(c);
        desk.thus(c);
        desk.cases();
        desk.suppose(c);
        desk.thus(c);
        desk.end();
        desk.end();
        dueForm(desk, "the inner NOW says", says(desk), b);
        desk.thus(c);
        dueForm(desk, "the outer NOW says", says(desk), and(desk, a, c));
    }

    /** "A NOW: -2 less the FORM that it says (a number of its own ..)" */
    private static void nowIsANewForm() {
        ThesisDesk desk = new ThesisDesk();
        desk.now();
        Check.due("FORM 0", desk.end(), -2);
        desk.now();
        Check.due("FORM 1", desk.end(), -3);
        int a = nullary(desk);
        desk.now();
        desk.thus(a);
        Check.due("a number of its own", desk.end(), -2 - (a + 1));
        Check.due("blocks open", desk.count(2), 0);
    }

    private static void nowSizes() {
        ThesisDesk desk = new ThesisDesk();
        int a = nullary(desk);
        int s98 = andOfSize(desk, a, 98);
        int s99 = and(desk, s98, a);
        int s100 = and(desk, s99, a);
        desk.now();
        desk.thus(a);
        desk.thus(s99);
        Check.due("THUS, SIZE 100", desk.about(says(desk), 2), 100);
        desk.now();
        desk.let();
        desk.thus(s99);
        Check.due("LET, SIZE 100", desk.about(says(desk), 2), 100);
        desk.now();
        desk.assume(s98);
        desk.thus(not(desk, a));
        Check.due("ASSUME, SIZE 100", desk.about(says(desk), 2), 100);
        int c = desk.constant();
        desk.now();
        desk.given(c, andOfSize(desk, a, 97));
        desk.thus(not(desk, a));
        Check.due("GIVEN, SIZE 100", desk.about(says(desk), 2), 100);
        desk.now();
        desk.thus(s100);
        dueForm(desk, "one of SIZE 100", says(desk), s100);
    }

    /** "(.. of SIZE above 100: IllegalStateException, and it stays open)" */
    private static void nowTooLargeStaysOpen() {
        for (int kind = 0; kind <= 3; kind++) {
            ThesisDesk desk = new ThesisDesk();
            int c = desk.constant();
            int a = nullary(desk);
            int t = truth(desk);
            int s99 = andOfSize(desk, a, 99);
            int s100 = and(desk, s99, a);
            desk.now();
            switch (kind) {
                case 0 -> desk.thus(a);
                case 1 -> desk.let();
                case 2 -> desk.assume(s99);
                default -> desk.given(c, t);
            }
            // Each says a FORM of SIZE 101: for ASSUME it is NOT AND of the 98 parts and a.
            desk.thus(kind == 2 ? not(desk, a) : s100);
            int forms = desk.count(0);
            Check.state("SIZE above 100, step " + kind, desk::end);
            Check.due("it stays open", desk.count(2), 1);
            Check.due("no form came", desk.count(0), forms);
            dueForm(desk, "it is a NOW still", desk.thesis(), t);
            Check.state("again", desk::end);
            Check.due("a block within", desk.proof(a), 2);
            desk.end();
            Check.due("a step", desk.thus(not(desk, t)), true);
            Check.due("NOT TRUE behind it takes all", desk.about(says(desk), 2), new int[] {2, 3, 100, 3}[kind]);
            Check.due("it ended", desk.count(2), 0);
        }
    }

    private static void nowLargeOnTheWay() {
        ThesisDesk desk = new ThesisDesk();
        int a = nullary(desk);
        int t = truth(desk);
        int n = not(desk, t);
        int large = andOfSize(desk, a, 100);
        desk.now();
        desk.thus(a);
        desk.assume(n);
        for (int i = 0; i < 9; i++) {
            desk.thus(large);
        }
        dueForm(desk, "ASSUME of NOT TRUE before large steps", says(desk), a);
        desk.now();
        desk.thus(a);
        desk.thus(n);
        for (int i = 0; i < 9; i++) {
            desk.let();
            desk.assume(large);
            desk.thus(large);
        }
        dueForm(desk, "THUS of NOT TRUE before large steps", says(desk), n);
        desk.now();
        desk.given(desk.constant(), n);
        desk.thus(large);
        desk.thus(a);
        dueForm(desk, "GIVEN of NOT TRUE before a large step", says(desk), t);
        desk.now();
        for (int i = 0; i < 9; i++) {
            desk.assume(large);
        }
        dueForm(desk, "ASSUMES of large, nothing behind them", says(desk), t);
    }

    // ---- "An object is used for at most 512 calls" ----

    private static void lastOf512Calls() {
        ThesisDesk forms = new ThesisDesk();
        for (int i = 0; i < 512; i++) {
            Check.due("call " + (i + 1) + ", constant()", forms.constant(), i);
        }
        ThesisDesk steps = new ThesisDesk();
        int t = steps.join(5, NONE, NONE);
        steps.now();
        for (int i = 3; i < 512; i++) {
            Check.due("call " + i + ", assume", steps.assume(t), true);
        }
        Check.due("call 512, end() of a NOW of 509 steps", steps.end(), -3);
        ThesisDesk ways = new ThesisDesk();
        int truth = ways.join(5, NONE, NONE);
        ways.proof(truth);
        ways.cases();
        for (int i = 4; i < 512; i += 2) {
            Check.due("call " + i + ", suppose", ways.suppose(truth), 2);
            Check.due("call " + (i + 1) + ", end() of a CASE", ways.end(), 1);
        }
        Check.due("call 512, end() of a PROOF of 254 CASES", ways.end(), 1);
        ThesisDesk misfits = new ThesisDesk();
        int f = misfits.join(5, NONE, NONE);
        misfits.proof(f);
        for (int i = 3; i < 511; i++) {
            misfits.let();
        }
        Check.due("call 511, count(3)", misfits.count(3), 508);
        Check.due("call 512, count(4)", misfits.count(4), 508);
    }
}
