/** A desk with a form of each kind, under numbers that never change, and with blocks as a test asks. */
enum Furnished {
    NONE_OPEN, IN_PROOF, IN_NOW, IN_CASE, WAITING_PROOF, WAITING_CASE,
    FORTY_IN_PROOF, FORTY_IN_NOW, FORTY_IN_CASE, FORTY_WAITING,
    THIRTY_PREDICATES,
    // 1000 FORMS take more than 512 calls: what is told of these is more than the document asks.
    THOUSAND_IN_PROOF, THOUSAND_IN_NOW, THOUSAND_WAITING;

    static final int C = 0;
    static final int D = 1;
    static final int LOCUS_0 = 2;
    static final int LOCUS_1 = 3;
    static final int A = 4;
    static final int P_OF_C = 5;
    static final int C_IS_D = 6;
    static final int TRUE = 7;
    static final int NOT_TRUE = 8;
    static final int P_OF_LOCUS = 9;
    static final int Q_OF_LOCI = 10;
    static final int ALL = 11;
    // What the ALL speaks of, and its variable: not WHOLE.
    static final int BODY = 12;
    static final int VARIABLE = 13;
    static final int BOTH = 14;
    static final int LARGE = 23;

    // PREDICATES of 0, 1 and 2 TERMS; that of 2 has a DEFINITION.
    static final int NULLARY = 0;
    static final int P = 1;
    static final int Q = 2;

    ThesisDesk desk() {
        ThesisDesk desk = forms();
        switch (this) {
            case IN_PROOF, THOUSAND_IN_PROOF -> proof(desk);
            case IN_NOW, THOUSAND_IN_NOW -> now(desk);
            case IN_CASE -> aCase(desk);
            case WAITING_PROOF, THOUSAND_WAITING -> waitingProof(desk);
            case WAITING_CASE -> {
                aCase(desk);
                desk.cases();
            }
            case FORTY_IN_PROOF -> proofs(desk, 40);
            case FORTY_IN_NOW -> {
                proofs(desk, 39);
                now(desk);
            }
            case FORTY_IN_CASE -> {
                proofs(desk, 39);
                desk.cases();
                desk.suppose(A);
            }
            case FORTY_WAITING -> {
                proofs(desk, 40);
                desk.cases();
            }
            case THIRTY_PREDICATES -> thirtyPredicates(desk);
            default -> { }
        }
        return isFullOfForms() ? fullOfForms(desk) : desk;
    }

    boolean isFullOfForms() {
        return this == THOUSAND_IN_PROOF || this == THOUSAND_IN_NOW || this == THOUSAND_WAITING;
    }

    private static ThesisDesk forms() {
        ThesisDesk desk = new ThesisDesk();
        for (int many = 0; many <= 2; many++) {
            desk.predicate(many);
        }
        desk.constant();
        desk.constant();
        desk.locus(0);
        desk.locus(1);
        desk.atom(NULLARY, -1, -1);
        desk.atom(P, C, -1);
        desk.atom(-1, C, D);
        desk.join(5, -1, -1);
        desk.join(0, TRUE, -1);
        desk.atom(P, LOCUS_0, -1);
        desk.atom(Q, LOCUS_0, LOCUS_1);
        desk.bind(false, C, P_OF_C);
        desk.part(ALL, 0);
        desk.part(BODY, 0);
        desk.join(1, A, P_OF_C);
        Make.many(desk, A, 99);
        desk.define(Q, P_OF_LOCUS);
        return desk;
    }

    /** With a step that did FIT and one that did not. */
    private static void proof(ThesisDesk desk) {
        desk.proof(BOTH);
        desk.thus(A);
        desk.thus(A);
    }

    private static void now(ThesisDesk desk) {
        desk.now();
        desk.assume(P_OF_C);
        desk.thus(A);
    }

    private static void waitingProof(ThesisDesk desk) {
        desk.proof(BOTH);
        desk.cases();
        desk.suppose(C_IS_D);
        desk.thus(BOTH);
        desk.end();
    }

    private static void aCase(ThesisDesk desk) {
        waitingProof(desk);
        desk.suppose(P_OF_C);
        desk.thus(A);
    }

    private static void proofs(ThesisDesk desk, int many) {
        for (int i = 0; i < many; i++) {
            desk.proof(A);
        }
    }

    private static void thirtyPredicates(ThesisDesk desk) {
        while (desk.count(1) < 30) {
            desk.predicate(desk.count(1) % 3);
        }
    }

    private static ThesisDesk fullOfForms(ThesisDesk desk) {
        while (desk.count(0) < 1000) {
            desk.constant();
        }
        return desk;
    }
}
