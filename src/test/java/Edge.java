import java.util.IdentityHashMap;
import java.util.Map;
import java.util.Set;

/** Calls at an edge of the document: taken or refused, and what has changed after them. */
final class Edge {
    private static final Set<String> TELL_NOUGHT = Set.of("set", "at", "worth", "weight", "making", "row");
    private static final Map<Run, Seen> SEEN = new IdentityHashMap<>();
    private static final Map<Run, long[]> STATUS = new IdentityHashMap<>();

    private Edge() {
    }

    /** The call is refused so; after it, status() alone has changed, by one. */
    static void refused(Run before, int by, String name, int... numbers) {
        String call = Played.told(name, numbers);
        int due = TELL_NOUGHT.contains(name) ? 0 : by;
        Check.same(call, due, before.play().call(name, numbers));
        Check.same(call + " of the Model", due, before.playOn(new Model()).call(name, numbers));
        Run after = before.then(name, numbers);
        statusIs(call, statusOf(before), by, Seen.statusAfter(after));
        String unlike = Seen.after(after).unlike(seenOf(before));
        Check.holds(call + " was refused, and yet " + unlike, unlike == null);
    }

    /** The call answers so and isn't refused; after it, all is as in the Model. */
    static void taken(Run before, long due, String name, int... numbers) {
        String call = Played.told(name, numbers);
        Check.same(call, due, before.play().call(name, numbers));
        Check.same(call + " of the Model", due, before.playOn(new Model()).call(name, numbers));
        Run after = before.then(name, numbers);
        statusIs(call, statusOf(before), 0, Seen.statusAfter(after));
        String unlike = Seen.after(after).unlike(Seen.inModel(after));
        Check.holds("after " + call + ", " + unlike, unlike == null);
    }

    /** As taken(); the answer that is due is the Model's. */
    static void taken(Run before, String name, int... numbers) {
        taken(before, before.playOn(new Model()).call(name, numbers), name, numbers);
    }

    /** The number at this place of the call: least and most are taken, the ones beyond them refused. */
    static void ends(Run before, int by, int place, int least, int most, String name, int... numbers) {
        taken(before, name, with(numbers, place, least));
        taken(before, name, with(numbers, place, most));
        outside(before, by, place, least, most, name, numbers);
    }

    static void outside(Run before, int by, int place, int least, int most, String name, int... numbers) {
        for (int number : new int[] {least - 1, most + 1, Bench.MIN, Bench.MAX}) {
            refused(before, by, name, with(numbers, place, number));
        }
    }

    static int[] with(int[] numbers, int place, int number) {
        int[] others = numbers.clone();
        others[place] = number;
        return others;
    }

    private static void statusIs(String call, long[] before, int by, long[] now) {
        for (int k = 0; k < now.length; k++) {
            int answer = -2 - k;
            long due = before[k] + (answer == by ? 1 : 0);
            Check.same("after " + call + ", status(" + answer + ")", due, now[k]);
        }
    }

    /** Many calls, one behind the other, all of them refused: what can be seen stays as it was. */
    static void leavesAll(String calls, Run before, Run after) {
        String unlike = Seen.after(after).unlike(seenOf(before));
        Check.holds(calls + " were refused, and yet " + unlike, unlike == null);
    }

    private static Seen seenOf(Run run) {
        return SEEN.computeIfAbsent(run, Seen::after);
    }

    private static long[] statusOf(Run run) {
        return STATUS.computeIfAbsent(run, Seen::statusAfter);
    }
}
