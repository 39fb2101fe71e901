import java.util.Arrays;

/**
 * A desk of proofs: what is still to be shown changes step by step, definitions are opened when a
 * step asks for it, blocks lie in one another.
 */
public final class ThesisDesk {
    private static final int MOST_FORMS = 1000;
    private static final int MOST_SIZE = 100;
    private static final int MOST_PREDICATES = 30;
    private static final int MOST_TERMS = 2;
    private static final int MOST_BLOCKS = 40;
    private static final int MOST_OPENINGS = 20;
    // An object is used for 512 calls at most, and a call notes one step: within them it never is full.
    private static final int MOST_NOTES = 1000;

    // Kinds of FORMS, with the numbers that about tells; a node that has no value has its kind as code.
    private static final int CONSTANT = 0;
    private static final int LOCUS = 1;
    private static final int BOUND = 2;
    private static final int TRUE = 3;
    private static final int EQUAL = 4;
    private static final int PREDICATE = 5;
    private static final int NOT = 6;
    private static final int AND = 7;
    private static final int ALL = 8;

    // Kinds of BLOCKS.
    private static final int PROOF = 0;
    private static final int NOW = 1;
    private static final int CASE = 2;

    // Kinds of steps; a CASE that begins is noted in the block around it as a SUPPOSE.
    private static final int LET = 0;
    private static final int ASSUME = 1;
    private static final int THUS = 2;
    private static final int TAKE = 3;
    private static final int GIVEN = 4;
    private static final int SUPPOSE = 5;

    private static final int NO_FORM = -1;
    // No node has this code: its kind is none of the above.
    private static final int NO_CODE = -1;

    private final Form[] forms;
    private int formCount;
    private int constantCount;
    private final int[] manies;
    private final Form[] definitions;
    private int predicateCount;
    private final Block[] blocks;
    private int blockCount;
    private int noteCount;
    private boolean lastFits;
    private int misfitCount;
    private final Form truth;
    // Rows to work on, made once, since what every call makes is counted.
    private final Row work;
    private final Row side;

    public ThesisDesk() {
        forms = new Form[MOST_FORMS];
        manies = new int[MOST_PREDICATES];
        definitions = new Form[MOST_PREDICATES];
        blocks = new Block[MOST_BLOCKS];
        for (int i = 0; i < MOST_BLOCKS; i++) {
            blocks[i] = new Block();
        }
        work = new Row();
        side = new Row();
        truth = work.toForm();
        lastFits = true;
    }

    // ---- predicates and forms ----

    public int predicate(int many) throws IllegalArgumentException, IllegalStateException {
        if (many < 0 || many > MOST_TERMS) {
            throw new IllegalArgumentException("a predicate has 0 to 2 terms");
        }
        if (predicateCount >= MOST_PREDICATES) {
            throw new IllegalStateException("30 predicates are there");
        }
        manies[predicateCount] = many;
        predicateCount++;
        return predicateCount - 1;
    }

    public boolean define(int p, int f) throws IllegalArgumentException {
        Form meaning = formulaAt(f);
        if (!isPredicate(p) || meaning == null || meaning.loci > manies[p]) {
            throw new IllegalArgumentException("a predicate and a formula in its loci are asked for");
        }
        boolean had = definitions[p] != null;
        definitions[p] = meaning;
        return had;
    }

    public int constant() throws IllegalStateException {
        return keepNewConstant();
    }

    public int locus(int i) throws IllegalArgumentException, IllegalStateException {
        if (i < 0 || i >= MOST_TERMS) {
            throw new IllegalArgumentException("the loci are 0 and 1");
        }
        work.setOnly(Code.of(LOCUS, i));
        return keepWork();
    }

    public int atom(int p, int s, int t) throws IllegalArgumentException, IllegalStateException {
        if (p != NO_FORM && !isPredicate(p)) {
            throw new IllegalArgumentException("no such predicate");
        }
        int many = p == NO_FORM ? 2 : manies[p];
        if (!isTermOrNone(s, many > 0) || !isTermOrNone(t, many > 1)) {
            throw new IllegalArgumentException("other terms are asked for");
        }
        work.setOnly(p == NO_FORM ? EQUAL : Code.ofPredicate(p, many));
        addTerm(s);
        addTerm(t);
        return keepWork();
    }

    public int join(int kind, int f, int g) throws IllegalArgumentException, IllegalStateException {
        if (kind < 0 || kind > 5) {
            throw new IllegalArgumentException("the kinds are 0 to 5");
        }
        if (!isFormulaOrNone(f, kind != 5) || !isFormulaOrNone(g, kind != 5 && kind != 0)) {
            throw new IllegalArgumentException("other formulas are asked for");
        }
        joinIntoWork(kind, formulaAt(f), formulaAt(g));
        return keepWork();
    }

    public int bind(boolean some, int c, int f) throws IllegalArgumentException, IllegalStateException {
        int constant = constantAt(c);
        Form form = formulaAt(f);
        if (constant == NO_CODE || form == null) {
            throw new IllegalArgumentException("a constant and a formula are asked for");
        }
        work.load(form);
        if (some) {
            work.bindSome(constant);
        } else {
            work.bindAll(constant);
        }
        return keepWork();
    }

    // ---- blocks and steps ----

    public int proof(int f) throws IllegalArgumentException, IllegalStateException {
        Form form = closedAt(f);
        if (form == null) {
            throw new IllegalArgumentException("a closed formula is asked for");
        }
        refuseWhileWaiting();
        return beginBlock(PROOF, form);
    }

    public int now() throws IllegalStateException {
        refuseWhileWaiting();
        return beginBlock(NOW, truth);
    }

    public int let() throws IllegalStateException {
        Block block = blockForStep();
        int number = keepNewConstant();
        step(block, LET, constantAt(number), null);
        return number;
    }

    public boolean fit() {
        return lastFits;
    }

    public boolean assume(int f) throws IllegalArgumentException, IllegalStateException {
        Form form = closedAt(f);
        if (form == null) {
            throw new IllegalArgumentException("a closed formula is asked for");
        }
        return step(blockForStep(), ASSUME, NO_CODE, form);
    }

    public boolean thus(int f) throws IllegalArgumentException, IllegalStateException {
        Form form = closedAt(f);
        if (form == null) {
            throw new IllegalArgumentException("a closed formula is asked for");
        }
        return step(blockForStep(), THUS, NO_CODE, form);
    }

    public boolean take(int t) throws IllegalArgumentException, IllegalStateException {
        int constant = constantAt(t);
        if (constant == NO_CODE) {
            throw new IllegalArgumentException("a closed term is asked for");
        }
        Block block = blockForStep();
        if (block.kind == NOW) {
            throw new IllegalStateException("a now has nothing to take a term for");
        }
        return step(block, TAKE, constant, null);
    }

    public boolean given(int c, int f) throws IllegalArgumentException, IllegalStateException {
        int constant = constantAt(c);
        Form form = closedAt(f);
        if (constant == NO_CODE || form == null) {
            throw new IllegalArgumentException("a constant and a closed formula are asked for");
        }
        return step(blockForStep(), GIVEN, constant, form);
    }

    public void cases() throws IllegalStateException {
        Block block = openBlock();
        if (block == null || block.kind == NOW || block.waits) {
            throw new IllegalStateException("no proof or case is open that could begin to wait");
        }
        block.waits = true;
    }

    public int suppose(int f) throws IllegalArgumentException, IllegalStateException {
        Form form = closedAt(f);
        if (form == null) {
            throw new IllegalArgumentException("a closed formula is asked for");
        }
        Block around = waitingBlock();
        refuseWhenFull();
        int open = beginBlock(CASE, around.thesis);
        note(around, SUPPOSE, NO_CODE, form);
        return open;
    }

    public int end() throws IllegalStateException {
        Block block = openBlock();
        if (block == null) {
            throw new IllegalStateException("no block is open");
        }
        if (block.kind == NOW) {
            return endNow(block);
        }
        boolean shown = block.isShown();
        blockCount--;
        if (block.kind == CASE) {
            tellAround(shown);
        }
        return shown ? 1 : 0;
    }

    public int thesis() throws IllegalStateException {
        Block block = openBlock();
        if (block == null) {
            throw new IllegalStateException("no block is open");
        }
        work.load(block.thesis);
        return keepWork();
    }

    public int ways() throws IllegalStateException {
        Block block = waitingBlock();
        work.setOnly(TRUE);
        for (Note note = block.latest; note != null; note = note.before) {
            side.load(note.form);
            side.negate();
            work.joinRow(side);
        }
        work.negate();
        return keepWork();
    }

    // ---- questions ----

    public int about(int x, int what) throws IllegalArgumentException {
        Form form = formAt(x);
        if (form == null) {
            throw new IllegalArgumentException("no such form");
        }
        switch (what) {
            case 0:
                return Code.kind(form.head());
            case 1:
                return Code.many(form.head());
            case 2:
                return form.codes.length;
            case 3:
                return Code.mark(form.head());
            default:
                return -1;
        }
    }

    public int part(int x, int i) throws IllegalArgumentException, IllegalStateException {
        Form form = formAt(x);
        if (form == null || i < 0 || i >= Code.many(form.head())) {
            throw new IllegalArgumentException("no such part");
        }
        work.load(form);
        work.leavePart(i);
        return keepWork();
    }

    public boolean alike(int x, int y) throws IllegalArgumentException {
        Form one = formAt(x);
        Form other = formAt(y);
        if (one == null || other == null) {
            throw new IllegalArgumentException("no such form");
        }
        work.load(one);
        side.load(other);
        return work.isAlike(side);
    }

    public int count(int what) throws IllegalArgumentException {
        switch (what) {
            case 0:
                return formCount;
            case 1:
                return predicateCount;
            case 2:
                return blockCount;
            case 3:
                return misfitCount;
            case 4:
                return constantCount;
            default:
                throw new IllegalArgumentException("0 to 4 can be counted");
        }
    }

    // ---- what the numbers of a call stand for ----

    private boolean isPredicate(int p) {
        return p >= 0 && p < predicateCount && p < MOST_PREDICATES;
    }

    private Form formAt(int x) {
        return x >= 0 && x < formCount && x < MOST_FORMS ? forms[x] : null;
    }

    private Form wholeAt(int x) {
        Form form = formAt(x);
        return form != null && form.whole ? form : null;
    }

    private Form formulaAt(int x) {
        Form form = wholeAt(x);
        return form != null && !form.isTerm() ? form : null;
    }

    private Form closedAt(int x) {
        Form form = formulaAt(x);
        return form != null && form.loci == 0 ? form : null;
    }

    private Form termAt(int x) {
        Form form = wholeAt(x);
        return form != null && form.isTerm() ? form : null;
    }

    /** The constant's code. A FORM that part gave is the same constant: its number is another one. */
    private int constantAt(int x) {
        Form form = formAt(x);
        return form != null && Code.kind(form.head()) == CONSTANT ? form.head() : NO_CODE;
    }

    private boolean isTermOrNone(int x, boolean asked) {
        return asked ? termAt(x) != null : x == NO_FORM;
    }

    private boolean isFormulaOrNone(int x, boolean asked) {
        return asked ? formulaAt(x) != null : x == NO_FORM;
    }

    // ---- making forms in the work row ----

    private void addTerm(int x) {
        Form term = termAt(x);
        if (term != null) {
            work.add(term.head());
        }
    }

    private void joinIntoWork(int kind, Form f, Form g) {
        switch (kind) {
            case 0:
                work.load(f);
                work.negate();
                break;
            case 1:
                work.load(g);
                work.joinForm(f);
                break;
            case 2:
                side.load(f);
                side.negate();
                work.load(g);
                work.negate();
                work.joinRow(side);
                work.negate();
                break;
            case 3:
                loadImplied(work, f, g);
                break;
            case 4:
                loadImplied(side, f, g);
                loadImplied(work, g, f);
                work.joinRow(side);
                break;
            default:
                work.setOnly(TRUE);
                break;
        }
    }

    private static void loadImplied(Row row, Form f, Form g) {
        row.load(g);
        row.imply(f);
    }

    private int keepNewConstant() {
        work.setOnly(Code.of(CONSTANT, constantCount));
        int number = keepWork();
        constantCount++;
        return number;
    }

    private int keepWork() {
        if (formCount >= MOST_FORMS) {
            throw new IllegalStateException("1000 forms are there");
        }
        if (work.isTooLarge()) {
            throw new IllegalStateException("the form would have a size above 100");
        }
        forms[formCount] = work.toForm();
        formCount++;
        return formCount - 1;
    }

    // ---- blocks ----

    private Block openBlock() {
        return blockCount > 0 && blockCount <= MOST_BLOCKS ? blocks[blockCount - 1] : null;
    }

    private void refuseWhileWaiting() {
        Block block = openBlock();
        if (block != null && block.waits) {
            throw new IllegalStateException("the open block waits for cases");
        }
    }

    private Block waitingBlock() {
        Block block = openBlock();
        if (block == null || !block.waits) {
            throw new IllegalStateException("no block that waits for cases is open");
        }
        return block;
    }

    private int beginBlock(int kind, Form thesis) {
        if (blockCount >= MOST_BLOCKS) {
            throw new IllegalStateException("40 blocks are open");
        }
        blocks[blockCount].begin(kind, thesis);
        blockCount++;
        return blockCount;
    }

    private void refuseWhenFull() {
        if (noteCount >= MOST_NOTES) {
            throw new IllegalStateException("the object has had more than its 512 calls");
        }
    }

    private void note(Block block, int kind, int constant, Form form) {
        block.latest = new Note(kind, constant, form, block.latest);
        noteCount++;
    }

    private int endNow(Block block) {
        work.setOnly(TRUE);
        for (Note note = block.latest; note != null; note = note.before) {
            tellStep(note);
        }
        int number = keepWork();
        blockCount--;
        return -2 - number;
    }

    /** Puts a step of a NOW before what the steps behind it say. */
    private void tellStep(Note note) {
        if (note.kind == THUS) {
            work.joinForm(note.form);
        } else {
            work.imply(note.form);
        }
        if (note.kind == LET || note.kind == GIVEN) {
            work.bindAll(note.constant);
        }
    }

    private void tellAround(boolean shown) {
        Block around = openBlock();
        if (around != null && !shown) {
            around.leftInCases = true;
        }
    }

    // ---- steps ----

    private Block blockForStep() {
        Block block = openBlock();
        if (block == null || block.waits) {
            throw new IllegalStateException("no block is open for steps");
        }
        refuseWhenFull();
        return block;
    }

    private boolean step(Block block, int kind, int constant, Form form) {
        if (block.kind == NOW) {
            note(block, kind, constant, form);
            lastFits = true;
        } else {
            lastFits = changeThesis(block, kind, constant, form);
        }
        if (!lastFits) {
            misfitCount++;
        }
        return lastFits;
    }

    private boolean changeThesis(Block block, int kind, int constant, Form form) {
        side.load(form);
        if (kind == GIVEN) {
            side.bindSome(constant);
        }
        work.load(block.thesis);
        boolean fits = work.makeStep(kind, constant, side);
        for (int opened = 0; !fits && opened < MOST_OPENINGS && openDefinition(); opened++) {
            fits = work.makeStep(kind, constant, side);
        }
        if (!fits || work.isTooLarge()) {
            return false;
        }
        block.thesis = work.toForm();
        return true;
    }

    private boolean openDefinition() {
        int p = work.predicateToOpen();
        if (!isPredicate(p) || definitions[p] == null) {
            return false;
        }
        work.open(definitions[p]);
        return true;
    }

    /**
     * One node of a FORM as a number: its kind and a value. The value of a bound variable tells its
     * ALL, counted from the outermost one of the FORM (0) inwards; below 0 that ALL stands outside.
     * So a variable's code stays what it is wherever its FORM is joined to others.
     */
    private static final class Code {
        private static final int SHIFT = 4;
        private static final int MASK = 15;

        static int of(int kind, int value) {
            return (value << SHIFT) | kind;
        }

        static int ofPredicate(int number, int many) {
            return of(PREDICATE, number * (MOST_TERMS + 1) + many);
        }

        static int kind(int code) {
            return code & MASK;
        }

        static int value(int code) {
            return code >> SHIFT;
        }

        static int predicateIn(int code) {
            return kind(code) == PREDICATE ? value(code) / (MOST_TERMS + 1) : -1;
        }

        static int many(int code) {
            switch (kind(code)) {
                case EQUAL:
                    return 2;
                case PREDICATE:
                    return value(code) % (MOST_TERMS + 1);
                case NOT:
                case ALL:
                    return 1;
                case AND:
                    return value(code);
                default:
                    return 0;
            }
        }

        /** What about tells of a FORM's first node; a bound variable that is one has no ALL in its FORM. */
        static int mark(int code) {
            switch (kind(code)) {
                case PREDICATE:
                    return predicateIn(code);
                case LOCUS:
                    return value(code);
                case BOUND:
                    return -1 - value(code);
                default:
                    return -1;
            }
        }
    }

    /** A TERM or FORMULA that never changes: a row of codes, each node before its parts. */
    private static final class Form {
        private final int[] codes;
        private final boolean whole;
        private final int loci;

        Form(int[] codes) {
            boolean free = false;
            int most = 0;
            for (int i = 0; i < codes.length; i++) {
                int value = Code.value(codes[i]);
                if (Code.kind(codes[i]) == BOUND && value < 0) {
                    free = true;
                }
                if (Code.kind(codes[i]) == LOCUS && value >= most) {
                    most = value + 1;
                }
            }
            this.codes = codes;
            whole = !free;
            loci = most;
        }

        int head() {
            return codes.length > 0 ? codes[0] : TRUE;
        }

        boolean isTerm() {
            return Code.kind(head()) <= BOUND;
        }
    }

    /**
     * A FORM in the making. Beyond FAR its codes are no more kept: it can't become small again but by
     * a part NOT TRUE, since all else that is done to a row makes it longer, or one code shorter.
     */
    private static final class Row {
        private static final int ROOM = 512;
        private static final int FAR = 240;

        private final int[] codes;
        private int size;
        private boolean far;

        Row() {
            codes = new int[ROOM];
            codes[0] = TRUE;
            size = 1;
        }

        void setOnly(int code) {
            codes[0] = code;
            size = 1;
            far = false;
        }

        private void setNotTrue() {
            codes[0] = NOT;
            codes[1] = TRUE;
            size = 2;
            far = false;
        }

        void load(Form form) {
            if (form == null) {
                setOnly(TRUE);
            } else {
                copy(form.codes, form.codes.length);
            }
        }

        private void copy(int[] from, int length) {
            if (length < 1 || length > from.length || length > ROOM) {
                return;
            }
            System.arraycopy(from, 0, codes, 0, length);
            size = length;
            far = false;
        }

        void add(int code) {
            if (size < ROOM) {
                codes[size] = code;
                size++;
            }
        }

        Form toForm() {
            return new Form(Arrays.copyOf(codes, size));
        }

        boolean isTooLarge() {
            return far || size > MOST_SIZE;
        }

        private int codeAt(int at) {
            return at >= 0 && at < size && at < ROOM ? codes[at] : NO_CODE;
        }

        private boolean isAnd() {
            return Code.kind(codes[0]) == AND;
        }

        private boolean isTrue() {
            return !far && codes[0] == TRUE;
        }

        private boolean isNotTrue() {
            return !far && codes[0] == NOT && codes[1] == TRUE;
        }

        boolean isAlike(Row other) {
            return !far && !other.far && size == other.size && hasAt(0, other, 0);
        }

        /** Whether the other's codes from its start on stand here. */
        private boolean hasAt(int at, Row other, int start) {
            int length = other.size - start;
            if (at < 0 || start < 0 || length > size - at) {
                return false;
            }
            for (int i = 0; i < length && at + i < ROOM && start + i < ROOM; i++) {
                if (codes[at + i] != other.codes[start + i]) {
                    return false;
                }
            }
            return true;
        }

        private void putFirst(int code) {
            if (size >= FAR) {
                far = true;
                return;
            }
            System.arraycopy(codes, 0, codes, 1, size);
            codes[0] = code;
            size++;
        }

        private void dropFirst(int many) {
            if (many < 0 || many >= size) {
                return;
            }
            System.arraycopy(codes, many, codes, 0, size - many);
            size -= many;
        }

        void negate() {
            if (far) {
                return;
            }
            if (codes[0] == NOT) {
                dropFirst(1);
            } else {
                putFirst(NOT);
            }
        }

        /** Becomes AND of the form and of what it was. */
        void joinForm(Form form) {
            if (form != null) {
                joinCodes(form.codes, form.codes.length);
            }
        }

        void joinRow(Row row) {
            if (!row.far) {
                joinCodes(row.codes, row.size);
            } else if (!isNotTrue()) {
                far = true;
            }
        }

        private void joinCodes(int[] first, int length) {
            if (length < 1 || length > first.length || first[0] == TRUE) {
                return;
            }
            boolean firstIsNotTrue = length == 2 && first[0] == NOT && first[1] == TRUE;
            if (firstIsNotTrue || isNotTrue()) {
                setNotTrue();
            } else if (isTrue()) {
                copy(first, length);
            } else if (!far) {
                putBefore(first, length);
            }
        }

        private void putBefore(int[] first, int length) {
            int skipped = Code.kind(first[0]) == AND ? 1 : 0;
            int own = isAnd() ? 1 : 0;
            int many = partsIn(first[0]) + partsIn(codes[0]);
            int added = length - skipped;
            int kept = size - own;
            if (added < 0 || kept < 0 || 1 + added + kept > FAR) {
                far = true;
                return;
            }
            System.arraycopy(codes, own, codes, 1 + added, kept);
            System.arraycopy(first, skipped, codes, 1, added);
            codes[0] = Code.of(AND, many);
            size = 1 + added + kept;
        }

        private static int partsIn(int head) {
            return Code.kind(head) == AND ? Code.value(head) : 1;
        }

        /** Becomes NOT AND of the form and NOT of what it was. */
        void imply(Form form) {
            if (form == null) {
                return;
            }
            negate();
            joinCodes(form.codes, form.codes.length);
            negate();
        }

        void bindAll(int constant) {
            if (far || isTrue()) {
                return;
            }
            for (int i = 0; i < size && i < ROOM; i++) {
                if (codes[i] == constant) {
                    codes[i] = BOUND;
                } else if (Code.kind(codes[i]) == BOUND) {
                    codes[i] = Code.of(BOUND, Code.value(codes[i]) + 1);
                }
            }
            putFirst(ALL);
        }

        void bindSome(int constant) {
            negate();
            bindAll(constant);
            negate();
        }

        /** Leaves what an ALL speaks of, with the code put in for what it binds. */
        private boolean leaveBody(int code) {
            if (codes[0] != ALL) {
                return false;
            }
            dropFirst(1);
            for (int i = 0; i < size && i < ROOM; i++) {
                if (codes[i] == BOUND) {
                    codes[i] = code;
                } else if (Code.kind(codes[i]) == BOUND) {
                    codes[i] = Code.of(BOUND, Code.value(codes[i]) - 1);
                }
            }
            return true;
        }

        void leavePart(int i) {
            if (leaveBody(Code.of(BOUND, -1))) {
                return;
            }
            int start = 1;
            for (int before = 0; before < i; before++) {
                start = stopOf(start);
            }
            int stop = stopOf(start);
            dropFirst(start);
            size = Math.max(1, stop - start);
        }

        private int stopOf(int start) {
            int at = start;
            for (int pending = 1; pending > 0 && at < size; at++) {
                pending += Code.many(codeAt(at)) - 1;
            }
            return at;
        }

        /**
         * Makes the step if it FITS as it is. TAKE does to NOT of THE THESIS what LET does to THE
         * THESIS itself, and ASSUME what THUS does; what is left is turned back.
         */
        boolean makeStep(int kind, int constant, Row asked) {
            boolean turned = kind == TAKE || kind == ASSUME || kind == GIVEN;
            if (turned) {
                negate();
            }
            boolean fits = kind == LET || kind == TAKE ? leaveBody(constant) : leaveOthers(asked);
            if (turned) {
                negate();
            }
            return fits;
        }

        /** Leaves AND of the parts behind those that are asked for, if these are the first ones. */
        private boolean leaveOthers(Row asked) {
            if (isAlike(asked)) {
                setOnly(TRUE);
                return true;
            }
            int skipped = asked.isAnd() ? 1 : 0;
            if (!isAnd() || !hasAt(1, asked, skipped)) {
                return false;
            }
            int left = partsIn(codes[0]) - partsIn(asked.codes[0]);
            dropFirst(1 + asked.size - skipped);
            if (left > 1) {
                putFirst(Code.of(AND, left));
            }
            return true;
        }

        /** The number of the PREDICATE that it is, or that stands behind its NOT; else -1. */
        int predicateToOpen() {
            return Code.predicateIn(codeAt(placeBehindNot()));
        }

        private int placeBehindNot() {
            return codes[0] == NOT ? 1 : 0;
        }

        /** Puts a DEFINITION, with the TERMS for its LOCI, in its PREDICATE's place. */
        void open(Form meaning) {
            int place = placeBehindNot();
            int first = codeAt(place + 1);
            int second = codeAt(place + 2);
            load(meaning);
            for (int i = 0; i < size && i < ROOM; i++) {
                if (Code.kind(codes[i]) == LOCUS) {
                    codes[i] = Code.value(codes[i]) == 0 ? first : second;
                }
            }
            if (place == 1) {
                negate();
            }
        }
    }

    /** A step of a NOW, or a CASE of the block around it, and the one before it. */
    private static final class Note {
        private final int kind;
        private final int constant;
        private final Form form;
        private final Note before;

        Note(int kind, int constant, Form form, Note before) {
            this.kind = kind;
            this.constant = constant;
            this.form = form;
            this.before = before;
        }
    }

    private static final class Block {
        private int kind;
        private Form thesis;
        private boolean waits;
        private boolean leftInCases;
        private Note latest;

        void begin(int newKind, Form newThesis) {
            kind = newKind;
            thesis = newThesis;
            waits = false;
            leftInCases = false;
            latest = null;
        }

        boolean isShown() {
            if (waits) {
                return latest != null && !leftInCases;
            }
            return thesis != null && thesis.head() == TRUE;
        }
    }
}
