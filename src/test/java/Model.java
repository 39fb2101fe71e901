import java.util.ArrayList;
import java.util.List;

/** The document word by word over trees, with no thought of what it costs. */
final class Model {
    /** A bound variable's value: how many ALLS stand between it and its own. */
    record Tree(int kind, int value, List<Tree> parts) {
        int size() {
            int size = 1;
            for (Tree part : parts) {
                size += part.size();
            }
            return size;
        }

        boolean isTerm() {
            return kind <= 2;
        }

        boolean whole(int alls) {
            boolean whole = kind != 2 || value < alls;
            for (Tree part : parts) {
                whole &= part.whole(kind == 8 ? alls + 1 : alls);
            }
            return whole;
        }

        boolean lociBelow(int many) {
            boolean below = kind != 1 || value < many;
            for (Tree part : parts) {
                below &= part.lociBelow(many);
            }
            return below;
        }
    }

    record Step(String kind, Tree constant, Tree formula) {
    }

    static final class Block {
        final String kind;
        Tree thesis;
        boolean waits;
        final List<Step> steps = new ArrayList<>();
        final List<Tree> supposed = new ArrayList<>();
        final List<Boolean> shown = new ArrayList<>();

        Block(String kind, Tree thesis) {
            this.kind = kind;
            this.thesis = thesis;
        }
    }

    static final Tree TRUE = new Tree(3, 0, List.of());
    static final Tree FALSE = new Tree(6, 0, List.of(TRUE));

    final List<Tree> forms = new ArrayList<>();
    final List<Integer> manies = new ArrayList<>();
    final List<Tree> definitions = new ArrayList<>();
    final List<Block> blocks = new ArrayList<>();
    int constants = 0;
    int misfits = 0;
    boolean lastFits = true;

    // ---- making trees ----

    static Tree not(Tree f) {
        return f.kind() == 6 ? f.parts().get(0) : new Tree(6, 0, List.of(f));
    }

    static List<Tree> partsOf(Tree f) {
        return f.kind() == 7 ? f.parts() : List.of(f);
    }

    static Tree and(List<Tree> given) {
        List<Tree> parts = new ArrayList<>();
        for (Tree f : given) {
            for (Tree part : partsOf(f)) {
                if (part.equals(FALSE)) {
                    return FALSE;
                }
                if (part.kind() != 3) {
                    parts.add(part);
                }
            }
        }
        if (parts.isEmpty()) {
            return TRUE;
        }
        return parts.size() == 1 ? parts.get(0) : new Tree(7, 0, parts);
    }

    static Tree all(Tree f, Tree constant) {
        return f.kind() == 3 ? TRUE : new Tree(8, 0, List.of(bound(f, constant, 0)));
    }

    static Tree some(Tree f, Tree constant) {
        return not(all(not(f), constant));
    }

    static Tree implies(Tree f, Tree g) {
        return not(and(List.of(f, not(g))));
    }

    private static Tree bound(Tree f, Tree constant, int alls) {
        if (f.equals(constant)) {
            return new Tree(2, alls, List.of());
        }
        List<Tree> parts = new ArrayList<>();
        for (Tree part : f.parts()) {
            parts.add(bound(part, constant, f.kind() == 8 ? alls + 1 : alls));
        }
        return new Tree(f.kind(), f.value(), parts);
    }

    private static Tree putIn(Tree f, Tree term, int alls) {
        if (f.kind() == 2 && f.value() == alls) {
            return term;
        }
        List<Tree> parts = new ArrayList<>();
        for (Tree part : f.parts()) {
            parts.add(putIn(part, term, f.kind() == 8 ? alls + 1 : alls));
        }
        return new Tree(f.kind(), f.value(), parts);
    }

    private static Tree forLoci(Tree f, List<Tree> terms) {
        if (f.kind() == 1) {
            return terms.get(f.value());
        }
        List<Tree> parts = new ArrayList<>();
        for (Tree part : f.parts()) {
            parts.add(forLoci(part, terms));
        }
        return new Tree(f.kind(), f.value(), parts);
    }

    // ---- steps ----

    private static Tree leftOf(List<Tree> parts, List<Tree> asked) {
        int k = asked.size();
        if (parts.size() < k || !parts.subList(0, k).equals(asked)) {
            return null;
        }
        return and(parts.subList(k, parts.size()));
    }

    static Tree left(Tree thesis, Step step) {
        Tree behind = thesis.kind() == 6 ? thesis.parts().get(0) : null;
        Tree a = step.formula();
        switch (step.kind()) {
            case "let":
                return thesis.kind() == 8 ? putIn(thesis.parts().get(0), step.constant(), 0) : null;
            case "take":
                return behind != null && behind.kind() == 8
                    ? not(putIn(behind.parts().get(0), step.constant(), 0)) : null;
            case "thus":
                if (thesis.equals(a)) {
                    return TRUE;
                }
                return thesis.kind() == 7 ? leftOf(thesis.parts(), partsOf(a)) : null;
            case "given":
                return left(thesis, new Step("assume", null, some(a, step.constant())));
            default:
                if (a.equals(not(thesis))) {
                    return FALSE;
                }
                Tree rest = behind != null && behind.kind() == 7 ? leftOf(behind.parts(), partsOf(a)) : null;
                return rest == null ? null : not(rest);
        }
    }

    private Tree opened(Tree thesis) {
        Tree f = thesis.kind() == 6 ? thesis.parts().get(0) : thesis;
        if (f.kind() != 5 || definitions.get(f.value()) == null) {
            return null;
        }
        Tree meaning = forLoci(definitions.get(f.value()), f.parts());
        return thesis.kind() == 6 ? not(meaning) : meaning;
    }

    /** What the step leaves of the thesis, opened as often as it must be; null if it never fits. */
    Tree leaves(Tree thesis, Step step) {
        Tree at = thesis;
        for (int opened = 0; opened <= 20 && at != null; opened++) {
            Tree left = left(at, step);
            if (left != null) {
                return left.size() > 100 ? null : left;
            }
            at = opened(at);
        }
        return null;
    }

    private boolean step(Step step) {
        Block block = blockForStep();
        if (block.kind.equals("now")) {
            state(!step.kind().equals("take"));
            block.steps.add(step);
            lastFits = true;
        } else {
            Tree left = leaves(block.thesis, step);
            lastFits = left != null;
            block.thesis = left != null ? left : block.thesis;
        }
        misfits += lastFits ? 0 : 1;
        return lastFits;
    }

    private static Tree said(List<Step> steps) {
        Tree it = TRUE;
        for (int i = steps.size() - 1; i >= 0; i--) {
            Step step = steps.get(i);
            switch (step.kind()) {
                case "thus":
                    it = and(List.of(step.formula(), it));
                    break;
                case "assume":
                    it = implies(step.formula(), it);
                    break;
                case "let":
                    it = all(it, step.constant());
                    break;
                default:
                    it = all(implies(step.formula(), it), step.constant());
                    break;
            }
        }
        return it;
    }

    // ---- what is asked of a call ----

    static void argument(boolean holds) {
        if (!holds) {
            throw new IllegalArgumentException();
        }
    }

    static void state(boolean holds) {
        if (!holds) {
            throw new IllegalStateException();
        }
    }

    Tree form(int x) {
        argument(x >= 0 && x < forms.size());
        return forms.get(x);
    }

    private Tree formula(int x) {
        Tree f = form(x);
        argument(!f.isTerm() && f.whole(0));
        return f;
    }

    private Tree closed(int x) {
        Tree f = formula(x);
        argument(f.lociBelow(0));
        return f;
    }

    private Tree constantOf(int x) {
        Tree f = form(x);
        argument(f.kind() == 0);
        return f;
    }

    private Tree term(int x) {
        Tree f = form(x);
        argument(f.isTerm() && f.whole(0));
        return f;
    }

    private int keep(Tree f) {
        state(forms.size() < 1000 && f.size() <= 100);
        forms.add(f);
        return forms.size() - 1;
    }

    Block open() {
        return blocks.isEmpty() ? null : blocks.get(blocks.size() - 1);
    }

    private Block blockForStep() {
        state(open() != null && !open().waits);
        return open();
    }

    private int begin(Block block) {
        blocks.add(block);
        return blocks.size();
    }

    // ---- the face ----

    int predicate(int many) {
        argument(many >= 0 && many <= 2);
        state(manies.size() < 30);
        manies.add(many);
        definitions.add(null);
        return manies.size() - 1;
    }

    boolean define(int p, int f) {
        argument(p >= 0 && p < manies.size());
        Tree meaning = formula(f);
        argument(meaning.lociBelow(manies.get(p)));
        return definitions.set(p, meaning) != null;
    }

    int constant() {
        int number = keep(new Tree(0, constants, List.of()));
        constants++;
        return number;
    }

    int locus(int i) {
        argument(i == 0 || i == 1);
        return keep(new Tree(1, i, List.of()));
    }

    int atom(int p, int s, int t) {
        argument(p >= -1 && p < manies.size());
        int many = p == -1 ? 2 : manies.get(p);
        List<Tree> terms = new ArrayList<>();
        int[] given = {s, t};
        for (int i = 0; i < 2; i++) {
            if (i < many) {
                terms.add(term(given[i]));
            } else {
                argument(given[i] == -1);
            }
        }
        return keep(new Tree(p == -1 ? 4 : 5, p == -1 ? 0 : p, terms));
    }

    int join(int kind, int f, int g) {
        switch (kind) {
            case 0:
                argument(g == -1);
                return keep(not(formula(f)));
            case 1:
                return keep(and(List.of(formula(f), formula(g))));
            case 2:
                return keep(not(and(List.of(not(formula(f)), not(formula(g))))));
            case 3:
                return keep(implies(formula(f), formula(g)));
            case 4:
                return keep(and(List.of(implies(formula(f), formula(g)), implies(formula(g), formula(f)))));
            case 5:
                argument(f == -1 && g == -1);
                return keep(TRUE);
            default:
                throw new IllegalArgumentException();
        }
    }

    int bind(boolean some, int c, int f) {
        return keep(some ? some(formula(f), constantOf(c)) : all(formula(f), constantOf(c)));
    }

    int proof(int f) {
        Tree thesis = closed(f);
        state(blocks.size() < 40 && (open() == null || !open().waits));
        return begin(new Block("proof", thesis));
    }

    int now() {
        state(blocks.size() < 40 && (open() == null || !open().waits));
        return begin(new Block("now", TRUE));
    }

    int let() {
        blockForStep();
        int number = constant();
        step(new Step("let", forms.get(number), null));
        return number;
    }

    boolean fit() {
        return lastFits;
    }

    boolean assume(int f) {
        return step(new Step("assume", null, closed(f)));
    }

    boolean thus(int f) {
        return step(new Step("thus", null, closed(f)));
    }

    boolean take(int t) {
        Tree term = term(t);
        argument(term.lociBelow(0));
        return step(new Step("take", term, null));
    }

    boolean given(int c, int f) {
        return step(new Step("given", constantOf(c), closed(f)));
    }

    void cases() {
        state(open() != null && !open().kind.equals("now") && !open().waits);
        open().waits = true;
    }

    int suppose(int f) {
        Tree supposed = closed(f);
        state(open() != null && open().waits && blocks.size() < 40);
        open().supposed.add(supposed);
        return begin(new Block("case", open().thesis));
    }

    int end() {
        Block block = open();
        state(block != null);
        if (block.kind.equals("now")) {
            int number = keep(said(block.steps));
            blocks.remove(blocks.size() - 1);
            return -2 - number;
        }
        blocks.remove(blocks.size() - 1);
        boolean shown = block.waits ? !block.shown.isEmpty() && !block.shown.contains(false)
            : block.thesis.equals(TRUE);
        if (block.kind.equals("case")) {
            open().shown.add(shown);
        }
        return shown ? 1 : 0;
    }

    int thesis() {
        state(open() != null);
        return keep(open().thesis);
    }

    int ways() {
        state(open() != null && open().waits);
        List<Tree> parts = new ArrayList<>();
        for (Tree f : open().supposed) {
            parts.add(not(f));
        }
        return keep(not(and(parts)));
    }

    int about(int x, int what) {
        Tree f = form(x);
        switch (what) {
            case 0:
                return f.kind();
            case 1:
                return f.parts().size();
            case 2:
                return f.size();
            case 3:
                return f.kind() == 5 || f.kind() == 1 || f.kind() == 2 ? f.value() : -1;
            default:
                return -1;
        }
    }

    int part(int x, int i) {
        Tree f = form(x);
        argument(i >= 0 && i < f.parts().size());
        return keep(f.parts().get(i));
    }

    boolean alike(int x, int y) {
        return form(x).equals(form(y));
    }

    int count(int what) {
        argument(what >= 0 && what <= 4);
        int[] counts = {forms.size(), manies.size(), blocks.size(), misfits, constants};
        return counts[what];
    }
}
