import java.util.LinkedHashMap;
import java.util.Map;
import java.util.Objects;
import java.util.function.Supplier;

/**
 * All that can be seen of an object after a run of calls, but for status(). It is read from several
 * new objects that went through the same run, since reading takes calls, and some readings change it.
 */
final class Seen {
    private static final int TABLES = 12;
    private static final int NETS = 4;
    private static final int STEPS = 16;
    private static final int SIDE = 5;

    private final Map<String, Long> answers = new LinkedHashMap<>();
    private final Run run;
    private final Supplier<Object> making;

    private Seen(Run run, Supplier<Object> making) {
        this.run = run;
        this.making = making;
        readTables();
        for (int net = 0; net < NETS; net++) {
            readNet(net);
        }
        readRow();
        readMaking();
        readRoom();
        readWhatComes();
    }

    static Seen after(Run run) {
        return new Seen(run, WellTables::new);
    }

    static Seen inModel(Run run) {
        return new Seen(run, Model::new);
    }

    /** Where the two are unlike first, or null. */
    String unlike(Seen other) {
        for (Map.Entry<String, Long> answer : answers.entrySet()) {
            Long there = other.answers.get(answer.getKey());
            if (!Objects.equals(answer.getValue(), there)) {
                return answer.getKey() + " is " + answer.getValue() + ", not " + there;
            }
        }
        return answers.size() == other.answers.size() ? null : "there is more to be seen in the other";
    }

    private Played fresh() {
        return run.playOn(making.get());
    }

    private void note(String when, long answer) {
        answers.put(when, answer);
    }

    private void readTables() {
        Played x = fresh();
        for (int t = 0; t < TABLES; t++) {
            for (int what : new int[] {0, 1, 2, 7}) {
                note(Played.told("look", t, what), x.call("look", t, what));
            }
            readNumbers("", x, t);
        }
    }

    private void readNumbers(String when, Played x, int table) {
        for (int i = 0; i < SIDE; i++) {
            for (int j = 0; j < SIDE; j++) {
                note(when + Played.told("at", table, i, j), x.call("at", table, i, j));
            }
        }
    }

    /** Its weights from LINE to LINE, with all STEPS, without the last, without the last two, .. */
    private void readNet(int net) {
        for (int off = 0; off <= STEPS + 1; off++) {
            Played x = fresh();
            long left = 0;
            for (int k = 0; k < off && left >= 0; k++) {
                left = x.call("back", net);
            }
            note("back() no. " + off + " of NET " + net, left);
            if (left < 0) {
                return;
            }
            for (int from = 0; from < SIDE; from++) {
                for (int to = 0; to < SIDE; to++) {
                    String when = "less " + off + " STEPS, " + Played.told("weight", net, 1 << from, 1 << to);
                    note(when, x.call("weight", net, 1 << from, 1 << to));
                    note(when + ", families", x.call("families", net, 1 << from, 1 << to));
                }
            }
        }
    }

    private void readRow() {
        Played x = fresh();
        for (int i = 0; i < STEPS; i++) {
            note(Played.told("row", i), x.call("row", i));
        }
        note("tear()", x.call("tear"));
    }

    private void readMaking() {
        Played x = fresh();
        long before = x.call("status", Bench.BEYOND);
        for (int i = 0; i < STEPS; i++) {
            for (int what = 0; what < 4; what++) {
                note(Played.told("making", i, what), x.call("making", i, what));
            }
            long now = x.call("status", Bench.BEYOND);
            note("STEP " + i + " of MAKING is missing", now - before);
        }
    }

    private void readRoom() {
        Played x = fresh();
        note("drop()", x.call("drop"));
        note("unnet()", x.call("unnet"));
    }

    /** Nothing that a refused call began may be found in what comes after it. */
    private void readWhatComes() {
        Played x = fresh();
        int table = (int) x.call("table", SIDE, SIDE);
        note("the next table()", table);
        note("its KIND", x.call("look", table, 0));
        readNumbers("the next: ", x, table);
        int net = (int) x.call("net", SIDE);
        note("the next net()", net);
        note("its back()", x.call("back", net));
        x.call("tear");
        note("the next tell()", x.call("tell", 0, 1));
        for (int i = 0; i < STEPS; i++) {
            note("the next " + Played.told("row", i), x.call("row", i));
        }
    }

    /** What status() tells, of -2 .. -8. */
    static long[] statusAfter(Run run) {
        Played x = run.play();
        long[] told = new long[7];
        for (int k = 0; k < told.length; k++) {
            told[k] = x.call("status", -2 - k);
        }
        return told;
    }
}
