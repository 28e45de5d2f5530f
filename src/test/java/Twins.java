import java.util.ArrayList;
import java.util.List;
import java.util.function.Consumer;

/** Two objects are brought to the same state, and one of them then gets calls that must change nothing. */
final class Twins {
    private static final int[] PATHS = {0x1, 0x2, 0x12, 0xe, 0x123456};

    private Twins() {
    }

    static void stayAlike(Check check, Consumer<SignQuorum> before, Consumer<SignQuorum> withoutEffect) {
        SignQuorum plain = new SignQuorum();
        SignQuorum disturbed = new SignQuorum();
        before.accept(plain);
        before.accept(disturbed);
        withoutEffect.accept(disturbed);
        List<String> names = new ArrayList<>();
        List<Long> due = lookThrough(plain, names);
        List<Long> got = lookThrough(disturbed, new ArrayList<>());
        check.same("how many answers tell of the state", got.size(), due.size());
        for (int i = 0; i < Math.min(got.size(), due.size()); i++) {
            check.same("behind calls that change nothing, " + names.get(i), got.get(i), due.get(i));
        }
    }

    /** All that calls tell of an object; those that change it come last. Some 340 calls if it is full. */
    private static List<Long> lookThrough(SignQuorum x, List<String> names) {
        List<Long> answers = new ArrayList<>();
        add(names, answers, "digest(0)", x.digest(0));
        add(names, answers, "digest(31)", x.digest(31));
        for (int role = 0; role <= 9; role++) {
            add(names, answers, "current(" + role + ")", x.current(role));
        }
        for (int path : PATHS) {
            add(names, answers, "find(" + path + ")", x.find(path));
        }
        int rows = 0;
        while (rows < 25 && x.about(rows, 0) != -1) {
            lookAtRow(x, rows, names, answers);
            rows++;
        }
        add(names, answers, "how many rows", rows);
        // A root row has the draft in its bytes; where there is room for none, no more rows tell of it.
        int root = x.row(0, 1, 0);
        add(names, answers, "row(0, 1, 0)", root);
        add(names, answers, "hash of that row", x.hash(root));
        add(names, answers, "digest(1) of that row", x.digest(1));
        for (int k = 0; k <= 20; k++) {
            add(names, answers, "revoke(" + k + ")", x.revoke(k) ? 1 : 0);
        }
        add(names, answers, "key(1, 1)", x.key(1, 1));
        return answers;
    }

    private static void lookAtRow(SignQuorum x, int row, List<String> names, List<Long> answers) {
        for (int what = 1; what <= 6; what++) {
            add(names, answers, "about(" + row + ", " + what + ")", x.about(row, what));
        }
        add(names, answers, "verify(" + row + ", 0)", x.verify(row, 0));
        add(names, answers, "hash(" + row + ")", x.hash(row));
        add(names, answers, "digest(0) of row " + row, x.digest(0));
        add(names, answers, "digest(31) of row " + row, x.digest(31));
        add(names, answers, "octet(" + row + ", 0)", x.octet(row, 0));
    }

    private static void add(List<String> names, List<Long> answers, String name, long answer) {
        names.add(name);
        answers.add(answer);
    }
}
