/**
 * All that calls show of a desk, as one text: two desks of one text are in the same state. The desk is
 * used up by it: its blocks are ended and its predicates defined anew.
 */
final class Told {
    // Larger forms are told by their first node alone, so that the calls stay few.
    private static final int WRITTEN_SIZE = 12;
    private static final int LAST_FORMS = 8;

    private final ThesisDesk desk;
    private final StringBuilder text = new StringBuilder();

    private interface Call {
        long get();
    }

    private Told(ThesisDesk desk) {
        this.desk = desk;
    }

    static String of(ThesisDesk desk) {
        Told told = new Told(desk);
        told.tellCounts();
        told.tellLastForms();
        told.tellBlocks();
        told.tellPredicates();
        told.tellCounts();
        return told.text.toString();
    }

    private void tellCounts() {
        text.append("counts");
        for (int what = 0; what <= 4; what++) {
            text.append(' ').append(desk.count(what));
        }
        text.append(" fit ").append(desk.fit()).append('\n');
    }

    private void tellLastForms() {
        int count = desk.count(0);
        for (int x = Math.max(0, count - LAST_FORMS); x < count; x++) {
            text.append(x).append(" of kind ").append(desk.about(x, 0)).append(", SIZE ").append(desk.about(x, 2));
            text.append('\n');
        }
    }

    private void tellBlocks() {
        for (int open = desk.count(2); open > 0; open--) {
            text.append("block ").append(open);
            tellForm(" thesis ", desk::thesis);
            tellForm(" ways ", desk::ways);
            long end = answer(" end ", desk::end);
            if (end <= -2) {
                write((int) (-2 - end));
            }
            text.append('\n');
        }
    }

    private void tellPredicates() {
        int before = desk.count(0);
        int truth = (int) answer("TRUE ", () -> desk.join(5, -1, -1));
        int c = (int) answer(" constant ", desk::constant);
        text.append('\n');
        for (int p = 0; p < desk.count(1); p++) {
            int number = p;
            text.append("predicate ").append(p);
            answer(" of 0 ", () -> desk.atom(number, -1, -1));
            answer(" of 1 ", () -> desk.atom(number, c, -1));
            answer(" of 2 ", () -> desk.atom(number, c, c));
            answer(" had one ", () -> desk.define(number, before < desk.count(0) ? truth : 0) ? 1 : 0);
            text.append('\n');
        }
    }

    private long answer(String name, Call call) {
        text.append(name);
        try {
            long answer = call.get();
            text.append(answer);
            return answer;
        } catch (RuntimeException e) {
            text.append(e.getClass().getSimpleName());
            return -1;
        }
    }

    private void tellForm(String name, Call call) {
        int x = (int) answer(name, call);
        if (x >= 0) {
            write(x);
        }
    }

    private void write(int x) {
        text.append(" [").append(desk.about(x, 0)).append(':').append(desk.about(x, 3));
        int size = desk.about(x, 2);
        if (size > WRITTEN_SIZE) {
            text.append(" SIZE ").append(size);
        } else {
            for (int i = 0; i < desk.about(x, 1); i++) {
                int at = i;
                tellForm(" ", () -> desk.part(x, at));
            }
        }
        text.append(']');
    }
}
