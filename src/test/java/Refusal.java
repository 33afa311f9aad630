import java.util.ArrayList;
import java.util.List;
import java.util.function.Supplier;
import java.util.function.ToLongFunction;

/** A call that must be refused, looked at beside a twin that was made alike and is not called. */
final class Refusal {
    private Refusal() {
    }

    /** finding: which one is due, 0 where none is. */
    static void look(Expect expect, String call, Supplier<ShapeMinima> made,
            ToLongFunction<ShapeMinima> refused, int answer, int finding) {
        ShapeMinima x = made.get();
        ShapeMinima twin = made.get();
        expect.due(call, refused.applyAsLong(x), answer);
        expect.due(call + ", finding()", x.finding(), finding == 0 ? twin.finding() : finding);
        for (int f = 1; f <= 4; f++) {
            int more = f == finding ? 1 : 0;
            expect.due(call + ", findings(" + f + ")", x.findings(f), twin.findings(f) + more);
        }
        expect.holds(call + " changed nothing else", answers(x).equals(answers(twin)));
    }

    /**
     * All that can be seen of an object, in less than 250 calls. What is kept out of sight (IMAGES,
     * what is UNDONE) is brought out last, since that changes the object.
     */
    private static List<Long> answers(ShapeMinima x) {
        List<Long> all = new ArrayList<>();
        all.add((long) x.asked());
        all.add(x.digest());
        all.add(x.sum());
        int nodes = x.count(9);
        for (int u = 0; u < nodes; u++) {
            for (int what = 0; what < 3; what++) {
                all.add((long) x.node(u, what));
            }
            all.add((long) x.up(u, x.node(u, 0) - 1));
        }
        for (int shape = 0; shape < 64; shape++) {
            all.add((long) x.entry(shape, 0, 0));
        }
        for (int left = x.count(7); left > 0; left--) {
            all.add((long) x.undo());
            all.add(x.digest());
        }
        for (int k = 0; k < 2; k++) {
            all.add((long) x.on(k));
            all.add(x.digest());
        }
        return all;
    }
}
