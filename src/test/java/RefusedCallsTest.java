import java.util.function.Consumer;

/** Every call that the document refuses: it throws the very exception that is named, and nothing has changed. */
public final class RefusedCallsTest {
    private static final int LEAST = Integer.MIN_VALUE;
    private static final int GREATEST = Integer.MAX_VALUE;
    private static final Check check = new Check();
    private static final Unchanged busy = new Unchanged(check, " of a busy object", RefusedCallsTest::busy);
    private static final Unchanged full = new Unchanged(check, " of one with six clients", RefusedCallsTest::full);
    private static final Unchanged fresh = new Unchanged(check, " of a new object", x -> { });

    private RefusedCallsTest() {
    }

    public static void main(String[] args) {
        busyIsBusy();
        noSuchClient();
        openOfNumbersThatAreNone();
        openOfASeventh();
        gain();
        startAndPause();
        drain();
        writeOfNoNumber();
        writeToOneThatEnds();
        read();
        asksOfOneThatListens();
        coming();
        played();
        tap();
        prepareWithFourReady();
        writeWithoutRoom();
        asks();
        check.end();
    }

    /**
     * Client 0 is RUNNING with half a frame written, 1 PAUSED, 2 listens and has read half a frame, 3 is DRAINING, 4
     * STOPPED, and there is no 5. A period is READY, one was played, samples are coming, and the limiter was at work.
     */
    private static void busy(Kernel x) {
        x.open(true, 48000, 2, 16);
        x.open(true, 44100, 1, 8);
        Kernels.listener(x, 16000, 2, 16);
        x.open(true, 8000, 1, 16);
        Kernels.player(x, 48000, 1, 16);
        x.limit(false);
        x.start(0);
        Kernels.fill(x, 0, 30000, 48);
        Kernels.fill(x, 4, 32000, 24);
        x.prepare();
        x.limit(true);
        x.drain(4);
        x.gain(0, 0.75);
        Kernels.fill(x, 0, 20000, 49);
        x.start(1);
        Kernels.fill(x, 1, 255, 31);
        x.prepare();
        x.pause(1);
        x.start(3);
        Kernels.fill(x, 3, -700, 6);
        x.drain(3);
        x.coming(5, false, 1000);
        x.coming(23, true, -2000);
        x.card();
        x.read(2);
        x.coming(0, false, 500);
        x.coming(23, true, -900);
    }

    /** A call could change little in an object in which nothing is under way. */
    private static void busyIsBusy() {
        Kernel x = new Kernel();
        busy(x);
        int[] states = {1, 2, 1, 3, 4};
        for (int c = 0; c < states.length; c++) {
            check.due("state of client " + c, x.state(c), states[c]);
        }
        check.due("half a frame is written", x.room(0), 399);
        check.due("half a frame is read", x.room(2), 11);
        check.due("samples were clipped", x.clipped(), 48);
        check.due("the value was lowered", x.value() < 4096, true);
        check.due("there is a level", x.level(0) > 0 && x.level(1) > 0, true);
        check.due("a period was played", x.played(0, 0, false), 32767);
        check.due("a period is READY", x.card(), true);
    }

    private static void full(Kernel x) {
        busy(x);
        x.open(false, 11025, 1, 8);
    }

    private static void noSuchClient() {
        check.says("A call that throws changes nothing;", "IllegalArgument: also where there is no such client,",
                "A client's state. IllegalArgument.", "that are ready). IllegalArgument.",
                "A client's POSITION. IllegalArgument.", "How often it was LATE. IllegalArgument.");
        for (int c : new int[] {-1, 5, 6, LEAST, GREATEST}) {
            refuseClient(busy, c);
        }
        for (int c : new int[] {-1, 6, LEAST, GREATEST}) {
            refuseClient(full, c);
        }
        for (int c = 0; c < 6; c++) {
            refuseClient(fresh, c);
        }
    }

    private static void refuseClient(Unchanged where, int c) {
        refuseArgument(where, "close of client " + c, x -> x.close(c));
        refuseArgument(where, "gain of client " + c, x -> x.gain(c, 0.5));
        refuseArgument(where, "start of client " + c, x -> x.start(c));
        refuseArgument(where, "pause of client " + c, x -> x.pause(c));
        refuseArgument(where, "drain of client " + c, x -> x.drain(c));
        refuseArgument(where, "state of client " + c, x -> x.state(c));
        refuseArgument(where, "write of client " + c, x -> x.write(c, 1));
        refuseArgument(where, "read of client " + c, x -> x.read(c));
        refuseArgument(where, "room of client " + c, x -> x.room(c));
        refuseArgument(where, "ahead of client " + c, x -> x.ahead(c));
        refuseArgument(where, "position of client " + c, x -> x.position(c));
        refuseArgument(where, "late of client " + c, x -> x.late(c));
        refuseArgument(where, "level of client " + c, x -> x.level(c));
    }

    private static void refuseArgument(Unchanged where, String what, Consumer<Kernel> call) {
        where.refused(what, Check.ARGUMENT, call);
    }

    private static void refuseState(Unchanged where, String what, Consumer<Kernel> call) {
        where.refused(what, Check.STATE, call);
    }

    private static void openOfNumbersThatAreNone() {
        check.says("or a number is none of those told.",
                "A client: its number, the least that is free. IllegalArgument.");
        for (boolean plays : new boolean[] {true, false}) {
            for (int rate : Rates.ALL) {
                refuseArgument(busy, "open at " + (rate - 1), x -> x.open(plays, rate - 1, 1, 8));
                refuseArgument(busy, "open at " + (rate + 1), x -> x.open(plays, rate + 1, 1, 8));
                refuseArgument(busy, "open at -" + rate, x -> x.open(plays, -rate, 1, 8));
            }
            for (int rate : new int[] {0, 12000, 24000, 96000, LEAST, GREATEST}) {
                refuseArgument(busy, "open at " + rate, x -> x.open(plays, rate, 2, 16));
            }
            for (int channels : new int[] {-1, 0, 3, LEAST, GREATEST}) {
                refuseArgument(busy, "open of channels " + channels, x -> x.open(plays, 48000, channels, 16));
            }
            for (int bits : new int[] {-8, 0, 7, 9, 15, 17, 24, LEAST, GREATEST}) {
                refuseArgument(busy, "open of bits " + bits, x -> x.open(plays, 48000, 1, bits));
            }
        }
    }

    private static void openOfASeventh() {
        check.says("IllegalState: there are 6.", "where it lists more than one exception, the first one wins.");
        refuseState(full, "open of one that plays", x -> x.open(true, 48000, 1, 16));
        refuseState(full, "open of one that listens", x -> x.open(false, 8000, 2, 8));
        refuseArgument(full, "open at a wrong rate", x -> x.open(true, 47999, 1, 16));
        refuseArgument(full, "open of wrong channels", x -> x.open(true, 48000, 3, 16));
        refuseArgument(full, "open of wrong bits", x -> x.open(false, 48000, 1, 12));
    }

    private static void gain() {
        check.says("IllegalArgument: g is not 0 .. 1, or it does not play.");
        double[] wrong = {-Double.MIN_VALUE, Math.nextUp(1.0), -1, 2, Double.NaN, Double.POSITIVE_INFINITY,
            Double.NEGATIVE_INFINITY, Double.MAX_VALUE, -Double.MAX_VALUE};
        for (double g : wrong) {
            for (int c : new int[] {0, 1, 3, 4}) {
                refuseArgument(busy, "gain " + g + " of client " + c, x -> x.gain(c, g));
            }
        }
        for (double g : new double[] {0, 0.5, 1, 2}) {
            refuseArgument(busy, "gain " + g + " of one that listens", x -> x.gain(2, g));
        }
    }

    private static void startAndPause() {
        check.says("An OPENED or PAUSED client is RUNNING. IllegalArgument. IllegalState: it is neither.",
                "A RUNNING client is PAUSED. IllegalArgument. IllegalState: it is not.");
        refuseState(busy, "start of a RUNNING one", x -> x.start(0));
        refuseState(busy, "start of a RUNNING one that listens", x -> x.start(2));
        refuseState(busy, "start of a DRAINING one", x -> x.start(3));
        refuseState(busy, "start of a STOPPED one", x -> x.start(4));
        refuseState(busy, "pause of a PAUSED one", x -> x.pause(1));
        refuseState(busy, "pause of a DRAINING one", x -> x.pause(3));
        refuseState(busy, "pause of a STOPPED one", x -> x.pause(4));
        refuseState(full, "pause of an OPENED one that listens", x -> x.pause(5));
        Unchanged opened = new Unchanged(check, " of an OPENED one that plays", x -> x.open(true, 48000, 2, 16));
        refuseState(opened, "pause", x -> x.pause(0));
        Unchanged paused = new Unchanged(check, " of a PAUSED one that listens", x -> Kernels.listenerIn(x, 2, 8000, 1, 8));
        refuseState(paused, "pause", x -> x.pause(0));
    }

    private static void drain() {
        check.says("IllegalArgument: also if it listens. IllegalState: it is not RUNNING.");
        refuseState(busy, "drain of a PAUSED one", x -> x.drain(1));
        refuseState(busy, "drain of a DRAINING one", x -> x.drain(3));
        refuseState(busy, "drain of a STOPPED one", x -> x.drain(4));
        refuseArgument(busy, "drain of a RUNNING one that listens", x -> x.drain(2));
        refuseArgument(full, "drain of an OPENED one that listens", x -> x.drain(5));
        Unchanged half = new Unchanged(check, " of an OPENED one with half a frame", x -> {
            x.open(true, 48000, 2, 16);
            x.write(0, 77);
        });
        refuseState(half, "drain", x -> x.drain(0));
        Unchanged paused = new Unchanged(check, " of a PAUSED one that listens", x -> Kernels.listenerIn(x, 2, 8000, 1, 8));
        refuseArgument(paused, "drain", x -> x.drain(0));
    }

    private static void writeOfNoNumber() {
        check.says("IllegalArgument: also if it listens, or v is no number of its BITS.");
        for (int v : new int[] {-1, 256, -32768, 32767, LEAST, GREATEST}) {
            refuseArgument(busy, "write of 8 bits " + v, x -> x.write(1, v));
        }
        for (int v : new int[] {-32769, 32768, 65535, LEAST, GREATEST}) {
            refuseArgument(busy, "write of 16 bits " + v, x -> x.write(0, v));
            refuseArgument(busy, "write of 16 bits to a DRAINING one " + v, x -> x.write(3, v));
            refuseArgument(busy, "write of 16 bits to a STOPPED one " + v, x -> x.write(4, v));
        }
        for (int v : new int[] {0, 255, 32767, 32768}) {
            refuseArgument(busy, "write to one that listens " + v, x -> x.write(2, v));
            refuseArgument(full, "write to an OPENED one that listens " + v, x -> x.write(5, v));
        }
    }

    private static void writeToOneThatEnds() {
        check.says("IllegalState: it is DRAINING or STOPPED.");
        for (int v : new int[] {-32768, 0, 32767}) {
            refuseState(busy, "write to a DRAINING one " + v, x -> x.write(3, v));
            refuseState(busy, "write to a STOPPED one " + v, x -> x.write(4, v));
        }
        Unchanged filled = new Unchanged(check, " of a DRAINING one that is full", x -> {
            Kernels.player(x, 48000, 1, 16);
            Kernels.fill(x, 0, 9, 200);
            x.drain(0);
        });
        refuseState(filled, "write", x -> x.write(0, 1));
        refuseArgument(filled, "write of no number", x -> x.write(0, 32768));
    }

    private static void read() {
        check.says("IllegalArgument: also if it plays. IllegalState: none is ready.");
        for (int c : new int[] {0, 1, 3, 4}) {
            refuseArgument(busy, "read of one that plays " + c, x -> x.read(c));
        }
        refuseState(full, "read of an OPENED one", x -> x.read(5));
        Unchanged heard = new Unchanged(check, " of one that has read all", x -> {
            busy(x);
            for (int i = 1; i < 12; i++) {
                x.read(2);
            }
        });
        refuseState(heard, "read", x -> x.read(2));
        Unchanged paused = new Unchanged(check, " of a PAUSED one without frames", x -> Kernels.listenerIn(x, 2, 48000, 2, 16));
        refuseState(paused, "read", x -> x.read(0));
    }

    private static void asksOfOneThatListens() {
        check.says("IllegalArgument: also if it listens. ## Promise 13",
                "IllegalArgument: also if it listens. ## Promise 20");
        refuseArgument(busy, "ahead of a RUNNING one that listens", x -> x.ahead(2));
        refuseArgument(busy, "level of a RUNNING one that listens", x -> x.level(2));
        refuseArgument(full, "ahead of an OPENED one that listens", x -> x.ahead(5));
        refuseArgument(full, "level of an OPENED one that listens", x -> x.level(5));
    }

    private static void coming() {
        check.says("IllegalArgument: i is not 0 .. 23, or v is no sample.");
        for (boolean right : new boolean[] {false, true}) {
            for (int i : new int[] {-1, 24, 48, LEAST, GREATEST}) {
                refuseArgument(busy, "coming of frame " + i, x -> x.coming(i, right, 100));
            }
            for (int v : new int[] {-32769, 32768, LEAST, GREATEST}) {
                refuseArgument(busy, "coming of " + v, x -> x.coming(0, right, v));
                refuseArgument(busy, "coming of " + v, x -> x.coming(23, right, v));
            }
        }
    }

    private static void played() {
        check.says("IllegalArgument: period is not 0 .. 3, or i not 0 .. 23.");
        for (boolean right : new boolean[] {false, true}) {
            for (int period : new int[] {-1, 4, LEAST, GREATEST}) {
                refuseArgument(busy, "played of period " + period, x -> x.played(period, 0, right));
            }
            for (int i : new int[] {-1, 24, 48, LEAST, GREATEST}) {
                refuseArgument(busy, "played of frame " + i, x -> x.played(0, i, right));
                refuseArgument(busy, "played of the oldest frame " + i, x -> x.played(3, i, right));
            }
        }
    }

    private static void tap() {
        check.says("A tap. IllegalArgument.");
        for (int phase : new int[] {-1, 32, LEAST, GREATEST}) {
            refuseArgument(busy, "tap of phase " + phase, x -> x.tap(phase, 0));
            refuseArgument(busy, "last tap of phase " + phase, x -> x.tap(phase, 15));
        }
        for (int k : new int[] {-1, 16, LEAST, GREATEST}) {
            refuseArgument(busy, "tap " + k, x -> x.tap(0, k));
            refuseArgument(busy, "tap of the last phase " + k, x -> x.tap(31, k));
        }
    }

    private static void prepareWithFourReady() {
        check.says("A period is made READY; false (and nothing happens) if 4 are.");
        Unchanged four = new Unchanged(check, " with four periods READY", x -> {
            busy(x);
            for (int i = 0; i < 3; i++) {
                check.due("prepare of one that is not the fifth", x.prepare(), true);
            }
        });
        four.nothingHappens("prepare", x -> check.due("prepare of a fifth", x.prepare(), false));
    }

    private static void writeWithoutRoom() {
        check.says("whether there was room for its frame.");
        for (int state = 0; state < 3; state++) {
            int begun = state;
            Unchanged filled = new Unchanged(check, " of a full one in state " + state, x -> {
                Kernels.playerIn(x, begun, 48000, 1, 16);
                check.due("200 frames have room", Kernels.fill(x, 0, 9, 200), 200);
            });
            filled.nothingHappens("write", x -> check.due("frame 201 has room", x.write(0, 5), false));
            refuseArgument(filled, "write of no number", x -> x.write(0, -32769));
        }
    }

    private static void asks() {
        check.says("Nothing is promised beyond the answers and state changes described above");
        busy.nothingHappens("asking each client", x -> {
            for (int c : new int[] {0, 1, 3, 4}) {
                x.state(c);
                x.room(c);
                x.ahead(c);
                x.position(c);
                x.late(c);
                x.level(c);
            }
            x.room(2);
            x.position(2);
            x.late(2);
        });
        busy.nothingHappens("asking the rest", x -> {
            x.clipped();
            x.value();
            x.limit(true);
            x.tap(31, 15);
            x.played(3, 23, true);
        });
    }
}
