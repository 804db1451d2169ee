/** The edges of promises 1 to 8: a new object, open, close, gain, start, pause, drain, state. */
public final class ClientEdgesTest {
    private static final int OPENED = 0;
    private static final int RUNNING = 1;
    private static final int PAUSED = 2;
    private static final int DRAINING = 3;
    private static final int STOPPED = 4;
    private static final Check check = new Check();

    private ClientEdgesTest() {
    }

    public static void main(String[] args) {
        newObject();
        calls();
        everyRateAndForm();
        sixClients();
        leastFree();
        closeInEveryState();
        closedOnesPeriodsStay();
        gainOfEachStep();
        gainRoundsDown();
        gainIsFullAtFirst();
        gainInEveryState();
        states();
        startInEveryState();
        pauseInEveryState();
        drainInEveryState();
        drainDropsANumber();
        drainWithoutNumbers();
        check.end();
    }

    private static void newObject() {
        check.says("No clients, no period READY, nothing captured.");
        Kernel x = new Kernel();
        for (int c = 0; c < 6; c++) {
            int client = c;
            check.dueThrow("state of client " + c, Check.ARGUMENT, () -> x.state(client));
        }
        check.due("open takes the first", x.open(false, 48000, 1, 16), 0);
        x.start(0);
        check.due("nothing is captured", x.room(0), 0);
        check.dueThrow("read", Check.STATE, () -> x.read(0));
        check.due("no period is READY", x.card(), false);
        check.due("four more have room", x.prepare() && x.prepare() && x.prepare() && x.prepare(), true);
        check.due("a fifth has none", x.prepare(), false);
        check.due("NONE", SoundKernel.NONE, -1);
    }

    /** What counts goes on counting up to the last call of which anything is said. */
    private static void calls() {
        check.says("An object is used for at most 512 calls after it has been made;");
        Kernel x = new Kernel();
        Kernels.listener(x, 48000, 1, 16);
        Kernels.cards(x, 508);
        check.due("frames ready", x.room(0), 192);
        check.due("late", x.late(0), 500);
        check.due("calls", x.calls(), 512);
        Kernel y = new Kernel();
        Kernels.player(y, 48000, 1, 16);
        for (int i = 0; i < 254; i++) {
            Kernels.play(y);
        }
        check.due("late without frames", y.late(0), 254);
        check.due("position without frames", y.position(0), 0);
        check.due("calls of the other", y.calls(), 512);
        Kernel z = new Kernel();
        for (int i = 0; i < 256; i++) {
            check.due("open behind a close", z.open(i % 2 == 0, 44100, 2, 16), 0);
            z.close(0);
        }
        check.due("calls of the third", z.calls(), 512);
    }

    private static void everyRateAndForm() {
        check.says("PLAY or LISTEN, with a RATE of 8000, 11025, 16000, 22050, 32000, 44100 or 48000, 1 or 2 CHANNELS, 8 or 16 BITS.");
        for (int rate : Rates.ALL) {
            for (int channels = 1; channels <= 2; channels++) {
                for (int bits = 8; bits <= 16; bits += 8) {
                    Kernel x = new Kernel();
                    check.due("open that plays at " + rate, x.open(true, rate, channels, bits), 0);
                    check.due("open that listens at " + rate, x.open(false, rate, channels, bits), 1);
                    check.due("room of one that plays", x.room(0), 200 * channels);
                    check.due("room of one that listens", x.room(1), 0);
                    check.due("the greatest number", x.write(0, bits == 8 ? 255 : 32767), true);
                    check.due("the least number", x.write(0, bits == 8 ? 0 : -32768), true);
                    check.due("ahead of one that plays", x.ahead(0), 0);
                    check.dueThrow("ahead of one that listens", Check.ARGUMENT, () -> x.ahead(1));
                }
            }
        }
    }

    private static void sixClients() {
        check.says("CLIENTS 0 .. 5");
        Kernel x = new Kernel();
        for (int c = 0; c < 6; c++) {
            check.due("open", x.open(c > 2, 48000, 1, 16), c);
        }
        check.dueThrow("open of a seventh", Check.STATE, () -> x.open(true, 48000, 1, 16));
        x.close(5);
        check.due("with five there is room for one", x.open(true, 48000, 1, 16), 5);
        check.dueThrow("and for no more", Check.STATE, () -> x.open(false, 48000, 1, 16));
        for (int c = 0; c < 6; c++) {
            check.due("state of client " + c, x.state(c), OPENED);
        }
    }

    private static void leastFree() {
        check.says("A client: its number, the least that is free.");
        int[][] closed = {{0}, {5}, {3}, {1, 4}, {4, 1}, {5, 0}, {2, 1, 0}, {0, 1, 2, 3, 4, 5}};
        int[][] due = {{0}, {5}, {3}, {1, 4}, {1, 4}, {0, 5}, {0, 1, 2}, {0, 1, 2, 3, 4, 5}};
        for (int i = 0; i < closed.length; i++) {
            Kernel x = new Kernel();
            for (int c = 0; c < 6; c++) {
                x.open(c % 2 == 0, 22050, 2, 8);
            }
            for (int c : closed[i]) {
                x.close(c);
            }
            for (int c : due[i]) {
                check.due("open behind " + closed[i].length + " closed ones", x.open(false, 8000, 1, 8), c);
            }
        }
    }

    private static void closeInEveryState() {
        check.says("A client is gone");
        for (int state = OPENED; state <= STOPPED; state++) {
            Kernel x = new Kernel();
            Kernels.playerIn(x, state, 48000, 1, 16);
            dueGone(x);
            if (state <= PAUSED) {
                Kernel y = new Kernel();
                Kernels.listenerIn(y, state, 48000, 1, 16);
                y.card();
                dueGone(y);
            }
        }
    }

    private static void dueGone(Kernel x) {
        x.close(0);
        check.dueThrow("state of a closed one", Check.ARGUMENT, () -> x.state(0));
        check.dueThrow("close of a closed one", Check.ARGUMENT, () -> x.close(0));
        Kernels.play(x);
        check.due("a new one has its number", x.open(true, 48000, 1, 16), 0);
        check.due("a new one is OPENED", x.state(0), OPENED);
        check.due("a new one has all room", x.room(0), 200);
        check.due("a new one was not LATE", x.late(0), 0);
        x.close(0);
        check.due("a new one that listens", x.open(false, 48000, 1, 16), 0);
        check.due("it has nothing to read", x.room(0), 0);
        check.due("its position", x.position(0), 0);
    }

    private static void closedOnesPeriodsStay() {
        check.says("(what it gave in READY periods stays there). IllegalArgument.");
        Kernel x = new Kernel();
        Kernels.player(x, 48000, 1, 16);
        for (int period = 1; period <= 4; period++) {
            Kernels.fill(x, 0, 100 * period, 24);
            x.prepare();
        }
        x.card();
        x.close(0);
        check.due("what was played stays", x.played(0, 23, false), 100);
        Kernels.player(x, 48000, 1, 16);
        for (int period = 2; period <= 4; period++) {
            check.due("they are still READY", x.card(), true);
            check.due("the first sample", x.played(0, 0, false), 100 * period);
            check.due("the last sample", x.played(0, 23, true), 100 * period);
            check.due("they do not move a new one of that number", x.position(0), 0);
        }
        Kernels.play(x);
        check.due("the new one has no last sample of the old one to fade", x.played(0, 0, false), 0);
        check.due("the new one is LATE", x.late(0), 1);
    }

    /** The sample 256 times a gain, divided by 256, is the gain itself. */
    private static int gainOf(double g) {
        Kernel x = new Kernel();
        Kernels.player(x, 48000, 1, 16);
        Kernels.fill(x, 0, 256, 24);
        x.gain(0, g);
        Kernels.play(x);
        return x.played(0, 0, false);
    }

    private static void gainOfEachStep() {
        check.says("A client's GAIN is g times 256, rounded down.");
        for (int step = 0; step <= 256; step++) {
            check.due("gain " + step + " / 256", gainOf(step / 256.0), step);
            if (step > 0) {
                check.due("a gain just below " + step + " / 256", gainOf(Math.nextDown(step / 256.0)), step - 1);
            }
            if (step < 256) {
                check.due("a gain just above " + step + " / 256", gainOf(Math.nextUp(step / 256.0)), step);
            }
        }
        check.due("gain -0.0", gainOf(-0.0), 0);
    }

    private static void gainRoundsDown() {
        check.says("Each sample is times the client's GAIN,", "divided by 256, rounded down; these are summed.");
        Kernel x = new Kernel();
        for (int c = 0; c < 2; c++) {
            Kernels.player(x, 48000, 2, 16);
            Kernels.frames(x, c, new int[][] {{1, -1}, {255, -255}, {256, -256}, {257, -257}, {32767, -32768}});
            Kernels.fill(x, c, 0, 38);
        }
        x.gain(0, 1 / 256.0);
        x.gain(1, 0);
        Kernels.play(x);
        int[][] due = {{0, -1}, {0, -1}, {1, -1}, {1, -2}, {127, -128}};
        for (int i = 0; i < due.length; i++) {
            check.due("left of frame " + i, x.played(0, i, false), due[i][0]);
            check.due("right of frame " + i, x.played(0, i, true), due[i][1]);
        }
        Kernel y = new Kernel();
        for (int c = 0; c < 6; c++) {
            Kernels.player(y, 48000, 1, 16);
            Kernels.fill(y, c, -1, 24);
            y.gain(c, 0.5);
        }
        Kernels.play(y);
        check.due("each is rounded before the sum", y.played(0, 23, true), -6);
    }

    private static void gainIsFullAtFirst() {
        check.says("0 .. 256 (256 at first),");
        Kernel x = new Kernel();
        Kernels.player(x, 48000, 2, 16);
        Kernels.fill(x, 0, 32767, 48);
        Kernels.play(x);
        check.due("a sample as it is", x.played(0, 0, false), 32767);
        x.gain(0, 0);
        x.close(0);
        Kernels.player(x, 48000, 2, 16);
        Kernels.fill(x, 0, -32767, 48);
        Kernels.play(x);
        check.due("a new one of the same number", x.played(0, 0, true), -32767);
    }

    private static void gainInEveryState() {
        check.says("A client's GAIN is g times 256");
        for (int state = OPENED; state <= STOPPED; state++) {
            Kernel x = new Kernel();
            Kernels.playerIn(x, state, 48000, 1, 16);
            x.gain(0, 0);
            x.gain(0, 1);
            check.due("a gain leaves the state", x.state(0), state);
        }
    }

    private static void states() {
        check.says("A client is OPENED (0), RUNNING (1), PAUSED (2), DRAINING (3) or STOPPED (4).");
        for (int state = OPENED; state <= STOPPED; state++) {
            Kernel x = new Kernel();
            Kernels.playerIn(x, state, 48000, 1, 16);
            check.due("state of one that plays", x.state(0), state);
        }
        for (int state = OPENED; state <= PAUSED; state++) {
            Kernel x = new Kernel();
            Kernels.listenerIn(x, state, 48000, 1, 16);
            Kernels.play(x);
            check.due("state of one that listens", x.state(0), state);
        }
    }

    private static void startInEveryState() {
        check.says("An OPENED or PAUSED client is RUNNING.");
        for (int state = OPENED; state <= STOPPED; state++) {
            Kernel x = new Kernel();
            Kernels.playerIn(x, state, 48000, 1, 16);
            dueStep(x, "start", () -> x.start(0), state == OPENED || state == PAUSED, RUNNING);
        }
        for (int state = OPENED; state <= PAUSED; state++) {
            Kernel x = new Kernel();
            Kernels.listenerIn(x, state, 48000, 1, 16);
            dueStep(x, "start of one that listens", () -> x.start(0), state != RUNNING, RUNNING);
        }
    }

    private static void pauseInEveryState() {
        check.says("A RUNNING client is PAUSED.");
        for (int state = OPENED; state <= STOPPED; state++) {
            Kernel x = new Kernel();
            Kernels.playerIn(x, state, 48000, 1, 16);
            dueStep(x, "pause", () -> x.pause(0), state == RUNNING, PAUSED);
        }
        for (int state = OPENED; state <= PAUSED; state++) {
            Kernel x = new Kernel();
            Kernels.listenerIn(x, state, 48000, 1, 16);
            dueStep(x, "pause of one that listens", () -> x.pause(0), state == RUNNING, PAUSED);
        }
    }

    private static void drainInEveryState() {
        check.says("A RUNNING client that plays is DRAINING");
        for (int state = OPENED; state <= STOPPED; state++) {
            Kernel x = new Kernel();
            Kernels.playerIn(x, state, 48000, 1, 16);
            dueStep(x, "drain", () -> x.drain(0), state == RUNNING, DRAINING);
        }
        for (int state = OPENED; state <= PAUSED; state++) {
            Kernel x = new Kernel();
            Kernels.listenerIn(x, state, 48000, 1, 16);
            check.dueThrow("drain of one that listens", Check.ARGUMENT, () -> x.drain(0));
            check.due("its state", x.state(0), state);
        }
    }

    /** A call that leads from the client's state to another, or is refused there. */
    private static void dueStep(Kernel x, String what, Runnable call, boolean leads, int to) {
        int state = x.state(0);
        if (leads) {
            call.run();
        } else {
            check.dueThrow(what + " in state " + state, Check.STATE, call);
        }
        check.due("the state behind " + what + " in state " + state, x.state(0), leads ? to : state);
    }

    private static void drainDropsANumber() {
        check.says("(a number without its second one is dropped).");
        for (int frames = 0; frames <= 24; frames += 8) {
            Kernel x = new Kernel();
            Kernels.player(x, 48000, 2, 16);
            Kernels.fill(x, 0, 40, 2 * frames);
            x.write(0, 30);
            x.drain(0);
            Kernels.play(x);
            check.due("it is no frame that is waited for", x.state(0), STOPPED);
            if (frames < 24) {
                check.due("its frame, left", x.played(0, frames, false), 0);
                check.due("its frame, right", x.played(0, frames, true), 0);
            }
        }
        Kernel y = new Kernel();
        Kernels.player(y, 48000, 2, 16);
        Kernels.fill(y, 0, 40, 50);
        y.drain(0);
        Kernels.play(y);
        check.due("a whole frame is", y.state(0), DRAINING);
        Kernels.play(y);
        check.due("its second number", y.played(0, 0, true), 40);
        check.due("then it ends", y.state(0), STOPPED);
    }

    private static void drainWithoutNumbers() {
        check.says("A RUNNING client that plays is DRAINING (a number");
        Kernel x = new Kernel();
        Kernels.player(x, 48000, 1, 16);
        x.drain(0);
        check.due("a drain by itself stops nothing", x.state(0), DRAINING);
        x.card();
        check.due("nor does the card", x.state(0), DRAINING);
        x.prepare();
        check.due("a period that is made does", x.state(0), STOPPED);
        check.due("it was not LATE", x.late(0), 0);
    }
}
