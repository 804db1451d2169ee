import java.lang.reflect.InvocationTargetException;
import java.lang.reflect.Method;
import java.util.ArrayList;
import java.util.Arrays;
import java.util.List;
import java.util.Random;

/** Long runs of calls, the same each time, on an object of the class and on the plain model: all answers are equal. */
public final class ModelTest {
    private static final int RUNS = 700;
    private static final int CALLS = Kernel.MOST_CALLS;
    private static final int[] RATES = {8000, 11025, 16000, 22050, 32000, 44100, 48000};
    private static final int[] EDGES = {-32768, 32767, 0, -1, 1, 255, 128, 32768, -32769, 256, Integer.MIN_VALUE, Integer.MAX_VALUE};
    private static final double[] GAINS = {0, 1, 0.5, 0.999, 0.004, 1.001, -0.001, Double.NaN};

    private final Random random;
    private final Object[] targets = {new SoundKernel(), new PlainModel()};
    private final int run;
    private final Check check;
    private final int clients;
    private final boolean loud;
    /** The bits of each client, so that most numbers written are right. */
    private final int[] bits = {16, 16, 16, 16, 16, 16};
    private final List<Integer> listeners = new ArrayList<>();
    private int calls = 0;

    private ModelTest(int run, Check check) {
        this.run = run;
        this.check = check;
        random = new Random(run);
        clients = 1 + random.nextInt(6);
        loud = random.nextInt(3) == 0;
    }

    public static void main(String[] args) {
        Check check = new Check();
        for (int run = 0; run < RUNS; run++) {
            new ModelTest(run, check).go();
        }
        check.end();
    }

    private void go() {
        for (int c = 0; c < clients; c++) {
            openOne();
            call("start", c);
        }
        int burst = 1 + random.nextInt(60);
        while (calls < CALLS) {
            switch (random.nextInt(12)) {
                case 0, 1, 2 -> write(random.nextInt(burst) + 1);
                case 3 -> read(random.nextInt(burst) + 1);
                case 4, 5 -> call("prepare");
                case 6 -> call("card");
                case 7 -> coming(1 + random.nextInt(6));
                case 8 -> change();
                default -> ask();
            }
        }
    }

    private void openOne() {
        boolean plays = random.nextInt(4) > 0;
        int width = random.nextBoolean() ? 8 : 16;
        String number = call("open", plays, RATES[random.nextInt(7)], 1 + random.nextInt(2), width);
        if (number.length() == 1) {
            int client = Integer.parseInt(number);
            bits[client] = width;
            listeners.remove((Integer) client);
            if (!plays) {
                listeners.add(client);
            }
        }
    }

    private int client() {
        return random.nextInt(40) == 0 ? EDGES[random.nextInt(EDGES.length)] : random.nextInt(clients);
    }

    private int sample() {
        if (random.nextInt(20) == 0) {
            return EDGES[random.nextInt(EDGES.length)];
        }
        return loud ? 32767 - random.nextInt(3000) : random.nextInt(65536) - 32768;
    }

    private void write(int times) {
        int client = client();
        boolean narrow = client >= 0 && client < 6 && bits[client] == 8;
        for (int i = 0; i < times && calls < CALLS; i++) {
            int v = narrow && random.nextInt(60) > 0 ? random.nextInt(256) : sample();
            call("write", client, v);
        }
    }

    private void read(int times) {
        int client = listeners.isEmpty() ? client() : listeners.get(random.nextInt(listeners.size()));
        for (int i = 0; i < times && calls < CALLS; i++) {
            call("read", client);
        }
    }

    private void coming(int times) {
        for (int i = 0; i < times; i++) {
            call("coming", random.nextInt(30) == 0 ? 24 : random.nextInt(24), random.nextBoolean(), sample());
        }
        call("card");
    }

    private void change() {
        switch (random.nextInt(12)) {
            case 0 -> call("pause", client());
            case 1, 2, 3, 4, 5 -> call("start", client());
            case 6 -> call("drain", client());
            case 7 -> call("close", client());
            case 8 -> openOne();
            case 9 -> call("limit", random.nextBoolean());
            default -> call("gain", client(), random.nextInt(3) == 0 ? random.nextDouble() : GAINS[random.nextInt(GAINS.length)]);
        }
    }

    private void ask() {
        switch (random.nextInt(12)) {
            case 0 -> call("state", client());
            case 1 -> call("room", client());
            case 2 -> call("ahead", client());
            case 3 -> call("position", client());
            case 4 -> call("late", client());
            case 5 -> call("level", client());
            case 6 -> call("clipped");
            case 7 -> call("value");
            case 8 -> call("tap", random.nextInt(34) - 1, random.nextInt(18) - 1);
            default -> call("played", random.nextInt(20) == 0 ? 4 : random.nextInt(4), random.nextInt(25), random.nextBoolean());
        }
    }

    /** Nothing is called behind the last call of which the document says anything. */
    private String call(String name, Object... arguments) {
        if (calls == CALLS) {
            return "";
        }
        calls++;
        String got = answer(targets[0], name, arguments);
        String want = answer(targets[1], name, arguments);
        check.dueText("run " + run + ", call " + calls + ": " + name + Arrays.toString(arguments), got, want);
        return got;
    }

    private static String answer(Object target, String name, Object[] arguments) {
        try {
            return String.valueOf(methodOf(target, name, arguments.length).invoke(target, arguments));
        } catch (InvocationTargetException e) {
            return "throws." + e.getCause().getClass().getName();
        } catch (IllegalAccessException e) {
            throw new AssertionError(e);
        }
    }

    private static Method methodOf(Object target, String name, int parameters) {
        for (Method method : target.getClass().getMethods()) {
            if (method.getName().equals(name) && method.getParameterCount() == parameters) {
                return method;
            }
        }
        throw new AssertionError(name);
    }
}
