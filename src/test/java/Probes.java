import java.util.List;
import java.util.concurrent.Callable;
import java.util.function.Function;

/**
 * Questions to an object, which together show all that its calls can show: what it answers now, and what it does with
 * the calls that come. Most of them change the object, so each wants one of its own.
 */
final class Probes {
    static final List<Function<Kernel, String>> ALL = List.of(
            Probes::answersNow, Probes::periodsKept, Probes::periodsToCome, Probes::numbersToRead,
            Probes::numbersToWrite, Probes::statesToCome, Probes::clientsToCome);

    private static final int CLIENTS = 6;
    private static final int[] FRAMES = {0, 1, 7, 8, 14, 15, 22, 23};

    private final Kernel x;
    private final StringBuilder told = new StringBuilder();

    private Probes(Kernel x) {
        this.x = x;
    }

    private static String answersNow(Kernel x) {
        Probes it = new Probes(x);
        it.tellClients();
        it.tell("clipped", x::clipped);
        it.tell("value", x::value);
        it.tell("limit", () -> x.limit(true));
        return it.told.toString();
    }

    private static String periodsKept(Kernel x) {
        Probes it = new Probes(x);
        for (int period = 0; period < 4; period++) {
            for (int i = 0; i < 24; i++) {
                it.tellFrame(period, i);
            }
        }
        return it.told.toString();
    }

    private static String periodsToCome(Kernel x) {
        Probes it = new Probes(x);
        for (int period = 0; period < 5; period++) {
            it.tell("prepare", x::prepare);
            it.tell("value", x::value);
            it.tell("card", x::card);
            for (int i : FRAMES) {
                it.tellFrame(0, i);
            }
        }
        it.tell("clipped", x::clipped);
        it.tellClients();
        return it.told.toString();
    }

    private static String numbersToRead(Kernel x) {
        Probes it = new Probes(x);
        it.tell("card", x::card);
        for (int client = 0; client < CLIENTS; client++) {
            int c = client;
            for (int i = 0; i < 30; i++) {
                it.tell("read", () -> x.read(c));
            }
        }
        return it.told.toString();
    }

    private static String numbersToWrite(Kernel x) {
        Probes it = new Probes(x);
        for (int client = 0; client < CLIENTS; client++) {
            int c = client;
            it.tell("write", () -> x.write(c, 3));
            it.tell("write", () -> x.write(c, 200));
            it.tell("room", () -> x.room(c));
            it.tell("drain", () -> done(() -> x.drain(c)));
        }
        for (int period = 0; period < 5; period++) {
            it.tell("prepare", x::prepare);
            it.tell("card", x::card);
            for (int i : FRAMES) {
                it.tellFrame(0, i);
            }
        }
        return it.told.toString();
    }

    private static String statesToCome(Kernel x) {
        Probes it = new Probes(x);
        for (int client = 0; client < CLIENTS; client++) {
            int c = client;
            it.tell("pause", () -> done(() -> x.pause(c)));
            it.tell("state", () -> x.state(c));
            it.tell("start", () -> done(() -> x.start(c)));
            it.tell("drain", () -> done(() -> x.drain(c)));
        }
        for (int period = 0; period < 4; period++) {
            it.tell("card", x::card);
            it.tell("prepare", x::prepare);
            it.tellClients();
        }
        return it.told.toString();
    }

    private static String clientsToCome(Kernel x) {
        Probes it = new Probes(x);
        for (int i = 0; i <= CLIENTS; i++) {
            it.tell("open", () -> x.open(true, 48000, 1, 16));
        }
        it.tellClients();
        for (int client = 0; client < CLIENTS; client++) {
            int c = client;
            it.tell("close", () -> done(() -> x.close(c)));
        }
        return it.told.toString();
    }

    private void tellClients() {
        for (int client = 0; client < CLIENTS; client++) {
            int c = client;
            tell("state", () -> x.state(c));
            tell("room", () -> x.room(c));
            tell("ahead", () -> x.ahead(c));
            tell("position", () -> x.position(c));
            tell("late", () -> x.late(c));
            tell("level", () -> x.level(c));
        }
    }

    private void tellFrame(int period, int i) {
        tell("left", () -> x.played(period, i, false));
        tell("right", () -> x.played(period, i, true));
    }

    private static String done(Runnable call) {
        call.run();
        return "done";
    }

    private void tell(String what, Callable<Object> call) {
        told.append(what).append(' ');
        try {
            told.append(call.call());
        } catch (Exception e) {
            told.append(e.getClass().getSimpleName());
        }
        told.append('\n');
    }
}
