import java.util.ArrayList;
import java.util.List;
import java.util.Random;

/** Runs of calls with fixed seeds, on the class and on the model beside it. */
public final class ModelTest {
    private static final int RUNS = 400;
    private static final int CALLS = 512;
    private static final String[] NAMES = {
        "predicate", "define", "constant", "locus", "atom", "join", "bind", "proof", "now", "let", "fit",
        "assume", "thus", "take", "given", "cases", "suppose", "end", "thesis", "ways", "about", "part",
        "alike", "count",
    };
    // How often each is called, so that forms are many and blocks are not ended at once.
    private static final int[] WEIGHTS = {
        4, 4, 3, 2, 12, 24, 10, 6, 4, 8, 1, 14, 14, 8, 8, 3, 6, 6, 6, 4, 5, 12, 4, 2,
    };

    private final Random random;
    private final ThesisDesk desk = new ThesisDesk();
    private final Model model = new Model();
    private static final int[] fitted = new int[5];

    private ModelTest(long seed) {
        random = new Random(seed);
    }

    public static void main(String[] args) {
        for (int seed = 0; seed < RUNS; seed++) {
            new ModelTest(seed).run(seed);
        }
        for (int i = 0; i < fitted.length; i++) {
            Check.due("steps of kind " + i + " often fit", fitted[i] > 200, true);
        }
        for (int seed = 0; seed < 20; seed++) {
            longRun(seed);
        }
        Check.finish();
    }

    private void run(int seed) {
        for (int i = 0; i < CALLS; i++) {
            String name = nextName(seed);
            int[] a = arguments(name);
            long want = answer(() -> onModel(name, a));
            long got = answer(() -> onDesk(desk, name, a));
            countFits(name, want);
            if (got != want) {
                Check.due("seed " + seed + ", call " + i + ": " + name + java.util.Arrays.toString(a), got, want);
                return;
            }
        }
        compareForms(seed);
    }

    private void compareForms(int seed) {
        for (int x = 0; x < model.forms.size(); x++) {
            for (int what = 0; what <= 3; what++) {
                String call = "seed " + seed + ": about(" + x + ", " + what + ")";
                Check.due(call, desk.about(x, what), model.about(x, what));
            }
            int y = random.nextInt(model.forms.size());
            Check.due("seed " + seed + ": alike(" + x + ", " + y + ")", desk.alike(x, y), model.alike(x, y));
        }
    }

    /** What calls beyond the 512th answer is free; that they answer, or throw one of the two, is not. */
    private static void longRun(int seed) {
        Random random = new Random(seed);
        ThesisDesk desk = new ThesisDesk();
        for (int i = 0; i < 5000; i++) {
            String name = NAMES[random.nextInt(seed % 2 == 0 ? NAMES.length : 17)];
            int[] a = new int[3];
            for (int k = 0; k < 3; k++) {
                a[k] = random.nextInt(8) == 0 ? random.nextInt() : random.nextInt(1 + desk.count(0)) - 1;
                a[k] = random.nextInt(3) == 0 ? random.nextInt(8) - 2 : a[k];
            }
            answer(() -> onDesk(desk, name, a));
        }
    }

    // ---- choosing a call ----

    private String nextName(int seed) {
        Model.Block block = model.open();
        if (block != null && !block.waits && random.nextInt(4) == 0) {
            int kind = block.thesis.kind();
            return kind == 8 ? "let" : kind == 6 ? "take" : "thus";
        }
        int sum = 0;
        for (int i = 0; i < NAMES.length; i++) {
            sum += weight(i, seed);
        }
        int at = random.nextInt(sum);
        int i = 0;
        while (at >= weight(i, seed)) {
            at -= weight(i, seed);
            i++;
        }
        return NAMES[i];
    }

    /** Some seeds end few blocks, so that 40 are reached; some take no forms apart. */
    private static int weight(int i, int seed) {
        if (NAMES[i].equals("end") && seed % 5 == 0) {
            return 1;
        }
        if (NAMES[i].equals("part") && seed % 3 == 0) {
            return 0;
        }
        return WEIGHTS[i];
    }

    private int[] arguments(String name) {
        if (random.nextInt(25) == 0) {
            return new int[] {random.nextInt(7) - 2, anyForm(), anyForm()};
        }
        switch (name) {
            case "predicate":
                return new int[] {random.nextInt(3)};
            case "define":
                return new int[] {random.nextInt(1 + model.manies.size()), formula()};
            case "locus":
                return new int[] {random.nextInt(2)};
            case "atom":
                return atomArguments();
            case "join":
                return joinArguments();
            case "bind":
                return new int[] {random.nextInt(2), ofKind(0, 0), formula()};
            case "proof":
                return new int[] {random.nextInt(2) == 0 ? boundFormula() : formula()};
            case "suppose":
                return new int[] {formula()};
            case "assume":
            case "thus":
                return new int[] {fitting(name, -1)};
            case "take":
                return new int[] {ofKind(0, 0)};
            case "given":
                int c = ofKind(0, 0);
                return new int[] {c, fitting(name, c)};
            case "about":
                return new int[] {anyForm(), random.nextInt(4)};
            case "part":
                int x = anyForm();
                return new int[] {x, random.nextInt(3)};
            case "count":
                return new int[] {random.nextInt(5)};
            default:
                return new int[] {anyForm(), anyForm()};
        }
    }

    private int[] atomArguments() {
        int p = random.nextInt(1 + model.manies.size()) - 1;
        int many = p < 0 ? 2 : model.manies.get(p);
        return new int[] {p, many > 0 ? ofKind(0, 1) : -1, many > 1 ? ofKind(0, 1) : -1};
    }

    private int[] joinArguments() {
        int kind = random.nextInt(20) == 0 ? 5 : random.nextInt(5);
        return new int[] {kind, kind == 5 ? -1 : formula(), kind == 5 || kind == 0 ? -1 : formula()};
    }

    private int anyForm() {
        return random.nextInt(model.forms.size() + 2) - 1;
    }

    private int formula() {
        return ofKind(3, 8);
    }

    /** An ALL, NOT of an ALL or, one in three, a PREDICATE with a DEFINITION. */
    private int boundFormula() {
        List<Integer> found = new ArrayList<>();
        boolean opened = random.nextInt(3) == 0;
        for (int x = 0; x < model.forms.size(); x++) {
            Model.Tree f = model.forms.get(x);
            Model.Tree behind = f.kind() == 6 ? f.parts().get(0) : f;
            boolean defined = behind.kind() == 5 && model.definitions.get(behind.value()) != null;
            if (opened ? defined : behind.kind() == 8) {
                found.add(x);
            }
        }
        return found.isEmpty() ? formula() : found.get(random.nextInt(found.size()));
    }

    private int ofKind(int least, int most) {
        List<Integer> found = new ArrayList<>();
        for (int x = 0; x < model.forms.size(); x++) {
            int kind = model.forms.get(x).kind();
            if (kind >= least && kind <= most) {
                found.add(x);
            }
        }
        return found.isEmpty() ? anyForm() : found.get(random.nextInt(found.size()));
    }

    /** Mostly a formula with which the step fits, if there is one. */
    private int fitting(String name, int c) {
        Model.Block block = model.open();
        if (block == null || random.nextInt(3) == 0 || name.equals("given") && (c < 0 || c >= model.forms.size())) {
            return formula();
        }
        List<Integer> found = new ArrayList<>();
        for (int x = 0; x < model.forms.size(); x++) {
            Model.Tree f = model.forms.get(x);
            if (!f.isTerm() && f.whole(0) && f.lociBelow(0)) {
                Model.Tree constant = c < 0 ? null : model.forms.get(c);
                if (model.leaves(block.thesis, new Model.Step(name, constant, f)) != null) {
                    found.add(x);
                }
            }
        }
        return found.isEmpty() ? formula() : found.get(random.nextInt(found.size()));
    }

    private void countFits(String name, long answer) {
        boolean steps = answer >= 0 && model.open() != null && !model.open().kind.equals("now") && model.fit();
        String[] names = {"let", "assume", "thus", "take", "given"};
        for (int i = 0; i < names.length; i++) {
            if (steps && names[i].equals(name)) {
                fitted[i]++;
            }
        }
    }

    // ---- the calls ----

    private interface Call {
        long get();
    }

    private static long answer(Call call) {
        try {
            return call.get();
        } catch (IllegalArgumentException e) {
            return Long.MIN_VALUE;
        } catch (IllegalStateException e) {
            return Long.MIN_VALUE + 1;
        }
    }

    private static int at(int[] a, int i) {
        return i < a.length ? a[i] : -1;
    }

    private static long bit(boolean answer) {
        return answer ? 1 : 0;
    }

    private static long onDesk(ThesisDesk x, String name, int[] a) {
        switch (name) {
            case "predicate": return x.predicate(at(a, 0));
            case "define": return bit(x.define(at(a, 0), at(a, 1)));
            case "constant": return x.constant();
            case "locus": return x.locus(at(a, 0));
            case "atom": return x.atom(at(a, 0), at(a, 1), at(a, 2));
            case "join": return x.join(at(a, 0), at(a, 1), at(a, 2));
            case "bind": return x.bind(at(a, 0) == 1, at(a, 1), at(a, 2));
            case "proof": return x.proof(at(a, 0));
            case "now": return x.now();
            case "let": return x.let();
            case "fit": return bit(x.fit());
            case "assume": return bit(x.assume(at(a, 0)));
            case "thus": return bit(x.thus(at(a, 0)));
            case "take": return bit(x.take(at(a, 0)));
            case "given": return bit(x.given(at(a, 0), at(a, 1)));
            case "cases": x.cases(); return 0;
            case "suppose": return x.suppose(at(a, 0));
            case "end": return x.end();
            case "thesis": return x.thesis();
            case "ways": return x.ways();
            case "about": return x.about(at(a, 0), at(a, 1));
            case "part": return x.part(at(a, 0), at(a, 1));
            case "alike": return bit(x.alike(at(a, 0), at(a, 1)));
            default: return x.count(at(a, 0));
        }
    }

    private long onModel(String name, int[] a) {
        switch (name) {
            case "predicate": return model.predicate(at(a, 0));
            case "define": return bit(model.define(at(a, 0), at(a, 1)));
            case "constant": return model.constant();
            case "locus": return model.locus(at(a, 0));
            case "atom": return model.atom(at(a, 0), at(a, 1), at(a, 2));
            case "join": return model.join(at(a, 0), at(a, 1), at(a, 2));
            case "bind": return model.bind(at(a, 0) == 1, at(a, 1), at(a, 2));
            case "proof": return model.proof(at(a, 0));
            case "now": return model.now();
            case "let": return model.let();
            case "fit": return bit(model.fit());
            case "assume": return bit(model.assume(at(a, 0)));
            case "thus": return bit(model.thus(at(a, 0)));
            case "take": return bit(model.take(at(a, 0)));
            case "given": return bit(model.given(at(a, 0), at(a, 1)));
            case "cases": model.cases(); return 0;
            case "suppose": return model.suppose(at(a, 0));
            case "end": return model.end();
            case "thesis": return model.thesis();
            case "ways": return model.ways();
            case "about": return model.about(at(a, 0), at(a, 1));
            case "part": return model.part(at(a, 0), at(a, 1));
            case "alike": return bit(model.alike(at(a, 0), at(a, 1)));
            default: return model.count(at(a, 0));
        }
    }
}
