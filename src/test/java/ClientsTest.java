/** Promises 1 to 8: a new object, open, close, gain, start, pause, drain, state. */
public final class ClientsTest {
    private static final int[] NO_CLIENTS = {-1, 0, 5, 6, Integer.MAX_VALUE, Integer.MIN_VALUE};
    private static final Check check = new Check();

    private ClientsTest() {
    }

    public static void main(String[] args) {
        newObject();
        noSuchClient();
        open();
        openRefuses();
        close();
        closedOnesOutputsStay();
        gain();
        gainRefuses();
        startAndPause();
        drain();
        drainDropsHalf();
        drainPlaysWhatIsWritten();
        drainBetweenRates();
        check.end();
    }

    private static void newObject() {
        Kernel x = new Kernel();
        check.due("new: value", x.value(), 4096);
        check.due("new: clipped", x.clipped(), 0);
        check.due("new: limiter", x.limit(true), true);
        for (int period = 0; period < 4; period++) {
            for (int i = 0; i < 24; i++) {
                check.due("new: played", x.played(period, i, false) | x.played(period, i, true), 0);
            }
        }
        check.due("new: no period is ready", x.card(), false);
        for (int i = 0; i < 4; i++) {
            check.due("new: four periods have room", x.prepare(), true);
        }
        check.due("new: a fifth has none", x.prepare(), false);
    }

    private static void noSuchClient() {
        Kernel x = new Kernel();
        for (int c : NO_CLIENTS) {
            check.dueThrow("close(none)", Check.ARGUMENT, () -> x.close(c));
            check.dueThrow("gain(none)", Check.ARGUMENT, () -> x.gain(c, 1));
            check.dueThrow("start(none)", Check.ARGUMENT, () -> x.start(c));
            check.dueThrow("pause(none)", Check.ARGUMENT, () -> x.pause(c));
            check.dueThrow("drain(none)", Check.ARGUMENT, () -> x.drain(c));
            check.dueThrow("state(none)", Check.ARGUMENT, () -> x.state(c));
            check.dueThrow("write(none)", Check.ARGUMENT, () -> x.write(c, 0));
            check.dueThrow("read(none)", Check.ARGUMENT, () -> x.read(c));
            check.dueThrow("room(none)", Check.ARGUMENT, () -> x.room(c));
            check.dueThrow("ahead(none)", Check.ARGUMENT, () -> x.ahead(c));
            check.dueThrow("position(none)", Check.ARGUMENT, () -> x.position(c));
            check.dueThrow("late(none)", Check.ARGUMENT, () -> x.late(c));
            check.dueThrow("level(none)", Check.ARGUMENT, () -> x.level(c));
        }
    }

    private static void open() {
        int number = 0;
        for (int rate : new int[] {8000, 11025, 16000, 22050, 32000, 44100, 48000}) {
            Kernel x = new Kernel();
            number = 0;
            for (int channels = 1; channels <= 2; channels++) {
                check.due("open: 8 bits", x.open(true, rate, channels, 8), number++);
                check.due("open: 16 bits", x.open(false, rate, channels, 16), number++);
            }
            check.due("opened: plays", x.state(0), 0);
            check.due("opened: listens", x.state(1), 0);
            check.due("opened: room of one that plays", x.room(2), 400);
            check.due("opened: room of one that listens", x.room(3), 0);
        }
    }

    private static void openRefuses() {
        Kernel x = new Kernel();
        for (int rate : new int[] {0, -8000, 7999, 8001, 24000, 44101, 96000, Integer.MIN_VALUE}) {
            check.dueThrow("open(rate)", Check.ARGUMENT, () -> x.open(true, rate, 1, 8));
        }
        for (int channels : new int[] {0, 3, -1, Integer.MAX_VALUE}) {
            check.dueThrow("open(channels)", Check.ARGUMENT, () -> x.open(false, 8000, channels, 8));
        }
        for (int bits : new int[] {0, 7, 9, 24, -8, 32}) {
            check.dueThrow("open(bits)", Check.ARGUMENT, () -> x.open(true, 8000, 2, bits));
        }
        check.dueThrow("nothing was opened", Check.ARGUMENT, () -> x.state(0));
        for (int i = 0; i < 6; i++) {
            check.due("open of six", x.open(i % 2 == 0, 8000, 1, 8), i);
        }
        check.dueThrow("a seventh", Check.STATE, () -> x.open(true, 8000, 1, 8));
        check.dueThrow("a seventh that is wrong too", Check.ARGUMENT, () -> x.open(true, 8000, 1, 9));
    }

    private static void close() {
        Kernel x = new Kernel();
        for (int i = 0; i < 6; i++) {
            x.open(true, 48000, 1, 16);
        }
        x.gain(3, 0.5);
        x.start(3);
        Kernels.fill(x, 3, 100, 24);
        x.prepare();
        x.prepare();
        x.close(3);
        x.close(1);
        check.dueThrow("a closed one is gone", Check.ARGUMENT, () -> x.state(3));
        check.dueThrow("a closed one is closed again", Check.ARGUMENT, () -> x.close(3));
        check.due("the least that is free", x.open(false, 48000, 1, 16), 1);
        check.due("then the next", x.open(true, 48000, 1, 16), 3);
        check.due("a new one: state", x.state(3), 0);
        check.due("a new one: late", x.late(3), 0);
        check.due("a new one: room", x.room(3), 200);
        check.dueDouble("a new one: level", x.level(3), 0);
        Kernels.cards(x, 2);
        check.due("a new one: what its number gave before is not its own", x.position(3), 0);
        x.start(3);
        Kernels.fill(x, 3, 100, 24);
        Kernels.play(x);
        check.due("a new one: gain", x.played(0, 0, false), 100);
        check.due("a new one: position", x.position(3), 24);
    }

    private static void closedOnesOutputsStay() {
        Kernel x = new Kernel();
        Kernels.player(x, 48000, 1, 16);
        Kernels.fill(x, 0, 700, 24);
        x.prepare();
        x.close(0);
        x.card();
        check.due("what a closed one gave stays", x.played(0, 23, true), 700);
        Kernels.play(x);
        check.due("a closed one gives nothing more", x.played(0, 0, true), 0);
    }

    private static void gain() {
        double[] gains = {0, -0.0, 0.5, 1, 0.00390625, 0.0039062, Double.MIN_VALUE, 0.9999999999999999, 0.3};
        int[] parts = {0, 0, 128, 256, 1, 0, 0, 255, 76};
        for (int i = 0; i < gains.length; i++) {
            Kernel x = new Kernel();
            Kernels.player(x, 48000, 2, 16);
            for (int frame = 0; frame < 24; frame++) {
                x.write(0, 1001);
                x.write(0, -1001);
            }
            x.gain(0, gains[i]);
            Kernels.play(x);
            check.due("gain " + gains[i], x.played(0, 0, false), Math.floorDiv(1001 * parts[i], 256));
            check.due("gain below zero " + gains[i], x.played(0, 0, true), Math.floorDiv(-1001 * parts[i], 256));
        }
    }

    private static void gainRefuses() {
        Kernel x = new Kernel();
        Kernels.player(x, 48000, 1, 16);
        x.open(false, 48000, 1, 16);
        x.gain(0, 0.25);
        double[] wrong = {-0.0001, 1.0001, Double.NaN, Double.POSITIVE_INFINITY, Double.NEGATIVE_INFINITY, -Double.MIN_VALUE};
        for (double g : wrong) {
            check.dueThrow("gain " + g, Check.ARGUMENT, () -> x.gain(0, g));
        }
        check.dueThrow("gain of one that listens", Check.ARGUMENT, () -> x.gain(1, 0.5));
        Kernels.fill(x, 0, 1024, 24);
        Kernels.play(x);
        check.due("a refused gain changes nothing", x.played(0, 0, false), 256);
    }

    private static void startAndPause() {
        Kernel x = new Kernel();
        for (int c = 0; c < 2; c++) {
            int client = x.open(c == 0, 48000, 1, 16);
            check.dueThrow("pause of an opened one", Check.STATE, () -> x.pause(client));
            x.start(client);
            check.due("started", x.state(client), 1);
            check.dueThrow("start of a running one", Check.STATE, () -> x.start(client));
            x.pause(client);
            check.due("paused", x.state(client), 2);
            check.dueThrow("pause of a paused one", Check.STATE, () -> x.pause(client));
            check.due("still paused", x.state(client), 2);
            x.start(client);
            check.due("started again", x.state(client), 1);
        }
        Kernels.fill(x, 0, 5, 48);
        Kernels.play(x);
        x.pause(0);
        Kernels.play(x);
        check.due("a paused one gives 0", x.played(0, 0, false), 0);
        check.dueDouble("a paused one has no level", x.level(0), 0);
        check.due("a paused one is not late", x.late(0), 0);
        x.start(0);
        Kernels.play(x);
        check.due("it goes on where it was", x.played(0, 23, false), 5);
        check.due("its position", x.position(0), 48);
    }

    private static void drain() {
        Kernel x = new Kernel();
        x.open(true, 48000, 1, 16);
        Kernels.listener(x, 48000, 1, 16);
        check.dueThrow("drain of an opened one", Check.STATE, () -> x.drain(0));
        check.dueThrow("drain of one that listens", Check.ARGUMENT, () -> x.drain(1));
        x.start(0);
        x.pause(0);
        check.dueThrow("drain of a paused one", Check.STATE, () -> x.drain(0));
        x.start(0);
        x.drain(0);
        check.due("draining", x.state(0), 3);
        check.dueThrow("drain of a draining one", Check.STATE, () -> x.drain(0));
        check.dueThrow("start of a draining one", Check.STATE, () -> x.start(0));
        check.dueThrow("pause of a draining one", Check.STATE, () -> x.pause(0));
        check.dueThrow("write to a draining one", Check.STATE, () -> x.write(0, 1));
        check.dueThrow("a wrong number to a draining one", Check.ARGUMENT, () -> x.write(0, 32768));
        check.due("room of a draining one", x.room(0), 0);
        x.prepare();
        check.due("stopped", x.state(0), 4);
        check.dueThrow("drain of a stopped one", Check.STATE, () -> x.drain(0));
        check.dueThrow("start of a stopped one", Check.STATE, () -> x.start(0));
        check.dueThrow("pause of a stopped one", Check.STATE, () -> x.pause(0));
        check.dueThrow("write to a stopped one", Check.STATE, () -> x.write(0, 1));
        check.due("room of a stopped one", x.room(0), 0);
        check.due("ahead of a stopped one", x.ahead(0), 0);
    }

    private static void drainDropsHalf() {
        Kernel x = new Kernel();
        Kernels.player(x, 48000, 2, 16);
        x.write(0, 10);
        x.write(0, 20);
        x.write(0, 30);
        x.drain(0);
        Kernels.play(x);
        check.due("the whole frame is given", x.played(0, 0, true), 20);
        check.due("the half one is dropped", x.played(0, 1, false) | x.played(0, 1, true), 0);
    }

    private static void drainPlaysWhatIsWritten() {
        Kernel x = new Kernel();
        Kernels.player(x, 48000, 1, 16);
        Kernels.fill(x, 0, 9, 48);
        x.drain(0);
        check.due("ahead while draining", x.ahead(0), 2);
        Kernels.play(x);
        check.due("one period is left", x.state(0), 3);
        check.due("first drained period", x.played(0, 23, false), 9);
        Kernels.play(x);
        check.due("nothing is left", x.state(0), 4);
        check.due("second drained period", x.played(0, 23, true), 9);
        check.due("its position", x.position(0), 48);
        Kernels.play(x);
        check.due("a stopped one gives 0", x.played(0, 0, false), 0);
        check.due("a drained one is not late", x.late(0), 0);
        check.due("its position does not move any more", x.position(0), 48);
    }

    private static void drainBetweenRates() {
        // At 8000 a period moves the place by 4: with 5 frames written it stops when the place is 12, not at 8.
        Kernel x = new Kernel();
        Kernels.player(x, 8000, 1, 16);
        Kernels.fill(x, 0, 1000, 5);
        x.drain(0);
        x.prepare();
        check.due("place 4", x.state(0), 3);
        x.prepare();
        check.due("place 8", x.state(0), 3);
        x.prepare();
        check.due("place 12", x.state(0), 4);
        // With 1 frame written the place 8 less 7 is not below 1.
        Kernel y = new Kernel();
        Kernels.player(y, 8000, 1, 16);
        Kernels.fill(y, 0, 1000, 1);
        y.drain(0);
        y.prepare();
        check.due("place 4 of one frame", y.state(0), 3);
        y.prepare();
        check.due("place 8 of one frame", y.state(0), 4);
    }
}
