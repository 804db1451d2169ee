import java.util.ArrayList;
import java.util.List;
import java.util.function.Consumer;
import java.util.function.Function;

/** Tests of calls that must change nothing: an object with the call and one without it answer all probes alike. */
final class Unchanged {
    private final Check check;
    private final String where;
    private final Consumer<Kernel> before;
    private final List<String> due = new ArrayList<>();

    /** Every object of these tests is brought by 'before' to where the call is made. */
    Unchanged(Check check, String where, Consumer<Kernel> before) {
        this.check = check;
        this.where = where;
        this.before = before;
        for (Function<Kernel, String> probe : Probes.ALL) {
            due.add(probe.apply(brought()));
        }
    }

    /** The call throws, and changes nothing. */
    void refused(String what, Class<? extends RuntimeException> want, Consumer<Kernel> call) {
        nothingHappens(what, x -> check.dueThrow(what + where, want, () -> call.accept(x)));
    }

    /** The call throws nothing, and changes nothing all the same. */
    void nothingHappens(String what, Consumer<Kernel> call) {
        for (int i = 0; i < due.size(); i++) {
            Kernel x = brought();
            call.accept(x);
            dueLines(what, Probes.ALL.get(i).apply(x), due.get(i));
        }
    }

    private Kernel brought() {
        Kernel x = new Kernel();
        before.accept(x);
        return x;
    }

    /** One line that differs is enough to tell, and the first says most. */
    private void dueLines(String what, String got, String want) {
        String[] lines = got.split("\n");
        String[] wanted = want.split("\n");
        for (int i = 0; i < wanted.length; i++) {
            if (!lines[i].equals(wanted[i])) {
                check.dueText(what + where + " changes nothing, but answer " + i + " behind it", lines[i], wanted[i]);
                return;
            }
        }
    }
}
