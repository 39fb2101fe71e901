/** Forms that tests make often, and what is due of them; a test extends it to have these by name. */
class Make {
    static final int NONE = -1;

    static int nullary(ThesisDesk desk) {
        return desk.atom(desk.predicate(0), NONE, NONE);
    }

    static int truth(ThesisDesk desk) {
        return desk.join(5, NONE, NONE);
    }

    static int not(ThesisDesk desk, int f) {
        return desk.join(0, f, NONE);
    }

    static int and(ThesisDesk desk, int f, int g) {
        return desk.join(1, f, g);
    }

    static int implies(ThesisDesk desk, int f, int g) {
        return desk.join(3, f, g);
    }

    /** AND of f so many times, by few calls. */
    static int many(ThesisDesk desk, int f, int times) {
        if (times == 1) {
            return f;
        }
        int half = many(desk, f, times / 2);
        int both = and(desk, half, half);
        return times % 2 == 0 ? both : and(desk, both, f);
    }

    /** An AND that has this SIZE (3 or more), of a formula of SIZE 1. */
    static int andOfSize(ThesisDesk desk, int f, int size) {
        int all = many(desk, f, size - 1);
        Check.due("SIZE of an AND that a test needs", desk.about(all, 2), size);
        return all;
    }

    static void dueForm(ThesisDesk desk, String call, int got, int want) {
        Check.due(call + " is alike form " + want, desk.alike(got, want), true);
    }

    /** Ends the proof, and tells what was left: alike `want`. */
    static void dueLeft(ThesisDesk desk, String call, int want) {
        dueForm(desk, call, desk.thesis(), want);
        desk.end();
    }
}
