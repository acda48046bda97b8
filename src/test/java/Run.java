import java.util.ArrayList;
import java.util.List;

/** A run of calls on a new object, that can be played again and again; it never changes. */
final class Run {
    static final Run NEW = new Run(List.of(), List.of());

    private final List<String> names;
    private final List<int[]> numbers;

    private Run(List<String> names, List<int[]> numbers) {
        this.names = names;
        this.numbers = numbers;
    }

    Run then(String name, int... given) {
        List<String> moreNames = new ArrayList<>(names);
        List<int[]> moreNumbers = new ArrayList<>(numbers);
        moreNames.add(name);
        moreNumbers.add(given.clone());
        return new Run(moreNames, moreNumbers);
    }

    Run then(Run other) {
        Run all = this;
        for (int k = 0; k < other.names.size(); k++) {
            all = all.then(other.names.get(k), other.numbers.get(k));
        }
        return all;
    }

    Run times(int many, String name, int... given) {
        Run all = this;
        for (int k = 0; k < many; k++) {
            all = all.then(name, given);
        }
        return all;
    }

    /** A PLAIN TABLE with these rows comes; the place that it gets has to be told. */
    Run table(int table, int[]... rows) {
        Run all = then("table", rows.length, rows[0].length);
        for (int i = 0; i < rows.length; i++) {
            for (int j = 0; j < rows[i].length; j++) {
                if (rows[i][j] != 0) {
                    all = all.then("set", table, i, j, rows[i][j]);
                }
            }
        }
        return all;
    }

    /** THE ROW's numbers from place 0 on. */
    Run row(int... told) {
        Run all = this;
        for (int i = 0; i < told.length; i++) {
            all = all.then("tell", i, told[i]);
        }
        return all;
    }

    Played play() {
        return playOn(new WellTables());
    }

    Played playOn(Object on) {
        Played played = new Played(on);
        for (int k = 0; k < names.size(); k++) {
            played.call(names.get(k), numbers.get(k));
        }
        return played;
    }
}
