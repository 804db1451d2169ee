/** The edges of promises 10, 11, 14, 15, 17 and 18 for clients that listen: read, room, card, coming, position, late. */
public final class ListeningEdgesTest {
    private static final Check check = new Check();

    private ListeningEdgesTest() {
    }

    public static void main(String[] args) {
        comingNumbers();
        comingIsZeroAtFirst();
        comingIsZeroBehindACard();
        numbersOfEightBits();
        halvesOfOneChannel();
        halvesOfEightBits();
        leftFirst();
        noneIsReady();
        roomOfNumbersReady();
        positionOfFramesReadWholly();
        fromStartOn();
        notWhilePaused();
        pausedBetweenRates();
        readyAtOnce();
        twoHundredAndOne();
        twoHundredOfEachRate();
        allOfThemAreLost();
        lostOnesAreHeardByTheFilter();
        aFrameReadByHalfIsNotRead();
        framesBeyondTheFirst256();
        check.end();
    }

    private static void comingNumbers() {
        check.says("A sample (right, or left) of frame i of the period that the card will capture next,",
                "IllegalArgument: i is not 0 .. 23, or v is no sample.");
        Kernel x = new Kernel();
        Kernels.listener(x, 48000, 2, 16);
        x.coming(0, false, -32768);
        x.coming(0, true, 32767);
        x.coming(23, false, 32767);
        x.coming(23, true, -32768);
        check.dueThrow("frame -1", Check.ARGUMENT, () -> x.coming(-1, true, 9));
        check.dueThrow("frame 24", Check.ARGUMENT, () -> x.coming(24, false, 9));
        check.dueThrow("sample -32769", Check.ARGUMENT, () -> x.coming(0, false, -32769));
        check.dueThrow("sample 32768", Check.ARGUMENT, () -> x.coming(23, true, 32768));
        x.coming(11, true, 5);
        x.coming(11, true, 6);
        x.card();
        int[] due = new int[48];
        due[0] = -32768;
        due[1] = 32767;
        due[23] = 6;
        due[46] = 32767;
        due[47] = -32768;
        for (int i = 0; i < 48; i++) {
            check.due("number " + i, x.read(0), due[i]);
        }
    }

    private static void comingIsZeroAtFirst() {
        check.says("the period that the card will capture next, 0 at first.");
        Kernel x = new Kernel();
        Kernels.listener(x, 48000, 2, 16);
        x.card();
        for (int i = 0; i < 48; i++) {
            check.due("number " + i, x.read(0), 0);
        }
    }

    private static void comingIsZeroBehindACard() {
        check.says("What is coming in is 0 then.");
        for (boolean ready : new boolean[] {true, false}) {
            Kernel x = new Kernel();
            for (int i = 0; i < 24; i++) {
                x.coming(i, false, 100 + i);
                x.coming(i, true, 200 + i);
            }
            if (ready) {
                x.prepare();
            }
            check.due("card", x.card(), ready);
            Kernels.listener(x, 48000, 2, 16);
            check.due("nobody listened then", x.room(0), 0);
            x.card();
            for (int i = 0; i < 48; i++) {
                check.due("number " + i + " behind a card", x.read(0), 0);
            }
        }
    }

    private static void numbersOfEightBits() {
        check.says("of a sample it is the sample / 256, rounded down, + 128;");
        int[][] due = {{-32768, 0}, {-32513, 0}, {-32512, 1}, {-257, 126}, {-256, 127}, {-255, 127}, {-1, 127}, {0, 128},
            {1, 128}, {255, 128}, {256, 129}, {511, 129}, {512, 130}, {32511, 254}, {32512, 255}, {32767, 255}};
        Kernel x = new Kernel();
        Kernels.listener(x, 48000, 2, 8);
        Kernels.listener(x, 48000, 2, 16);
        for (int i = 0; i < due.length; i++) {
            x.coming(i, false, due[i][0]);
            x.coming(i, true, due[due.length - 1 - i][0]);
        }
        x.card();
        for (int i = 0; i < due.length; i++) {
            check.due("8 bits of " + due[i][0], x.read(0), due[i][1]);
            check.due("8 bits of the right one", x.read(0), due[due.length - 1 - i][1]);
            check.due("16 bits of " + due[i][0], x.read(1), due[i][0]);
            check.due("16 bits of the right one", x.read(1), due[due.length - 1 - i][0]);
        }
    }

    private static void halvesOfOneChannel() {
        check.says("of a frame it is the sum of both, halved, rounded down, as a sample.");
        int[][] due = {{0, 0, 0}, {0, 1, 0}, {1, 0, 0}, {1, 1, 1}, {0, -1, -1}, {-1, 0, -1}, {-1, -1, -1}, {-1, -2, -2},
            {1, -2, -1}, {2, -1, 0}, {32767, 32767, 32767}, {32767, 32766, 32766}, {-32768, -32768, -32768},
            {-32768, -32767, -32768}, {32767, -32768, -1}, {-32768, 32767, -1}, {-32768, 0, -16384}, {32767, 0, 16383}};
        dueNumbers(due, 16);
    }

    private static void halvesOfEightBits() {
        check.says("of a frame it is the sum of both, halved, rounded down, as a sample");
        int[][] due = {{255, 256, 128}, {255, 257, 129}, {-1, 1, 128}, {256, 256, 129}, {256, 257, 129}, {-1, 0, 127},
            {0, 1, 128}, {-256, -257, 126}, {-256, -256, 127}, {32767, -32768, 127}, {32767, 32767, 255}, {-32768, -32768, 0}, {32512, 32511, 254},
            {-32512, -32513, 0}, {-32512, -32511, 1}};
        dueNumbers(due, 8);
    }

    /** Each row: a left and a right sample, and the number that a client of one channel reads. */
    private static void dueNumbers(int[][] due, int bits) {
        Kernel x = new Kernel();
        Kernels.listener(x, 48000, 1, bits);
        for (int i = 0; i < due.length; i++) {
            x.coming(i, false, due[i][0]);
            x.coming(i, true, due[i][1]);
        }
        x.card();
        for (int[] row : due) {
            check.due("number of " + row[0] + " and " + row[1], x.read(0), row[2]);
        }
    }

    private static void leftFirst() {
        check.says("The next number of those captured (left first).");
        Kernel x = new Kernel();
        Kernels.listener(x, 48000, 2, 16);
        for (int period = 0; period < 2; period++) {
            for (int i = 0; i < 24; i++) {
                x.coming(i, false, 100 * period + i);
                x.coming(i, true, -100 * period - i);
            }
            x.card();
        }
        for (int i = 0; i < 48; i++) {
            int due = 100 * (i / 24) + i % 24;
            check.due("left of frame " + i, x.read(0), due);
            check.due("right of frame " + i, x.read(0), -due);
        }
    }

    private static void noneIsReady() {
        check.says("IllegalState: none is ready.");
        for (int channels = 1; channels <= 2; channels++) {
            Kernel x = new Kernel();
            Kernels.listener(x, 48000, channels, 16);
            check.dueThrow("read before anything is captured", Check.STATE, () -> x.read(0));
            x.coming(23, true, 4);
            x.card();
            for (int i = 1; i < 24 * channels; i++) {
                x.read(0);
            }
            check.due("the last number", x.read(0), channels == 2 ? 4 : 2);
            check.dueThrow("read behind the last number", Check.STATE, () -> x.read(0));
            x.coming(0, false, 8);
            x.card();
            check.due("a refused read takes nothing", x.read(0), channels == 2 ? 8 : 4);
        }
    }

    private static void roomOfNumbersReady() {
        check.says("(of one that listens: that are ready).");
        for (int channels = 1; channels <= 2; channels++) {
            Kernel x = new Kernel();
            x.open(false, 48000, channels, 8);
            check.due("room of an OPENED one", x.room(0), 0);
            x.start(0);
            check.due("room before a card", x.room(0), 0);
            x.card();
            for (int left = 24 * channels; left > 0; left--) {
                check.due("room", x.room(0), left);
                x.read(0);
            }
            check.due("room of one that has read all", x.room(0), 0);
            x.card();
            x.read(0);
            x.pause(0);
            check.due("room of a PAUSED one", x.room(0), 24 * channels - 1);
        }
    }

    private static void positionOfFramesReadWholly() {
        check.says("Its POSITION is how many frames were read wholly.");
        Kernel x = new Kernel();
        Kernels.listener(x, 44100, 2, 16);
        Kernels.listener(x, 44100, 1, 16);
        x.card();
        check.due("none is read", x.position(0) + x.position(1), 0);
        for (int number = 1; number <= 10; number++) {
            x.read(0);
            x.read(1);
            check.due("frames of two channels", x.position(0), number / 2);
            check.due("frames of one channel", x.position(1), number);
        }
        x.card();
        check.due("the card moves no position", x.position(0), 5);
    }

    private static void fromStartOn() {
        check.says("LISTENING. Frames that the card captures, from when the client was started on");
        Kernel x = new Kernel();
        x.open(false, 48000, 1, 16);
        x.coming(0, false, 10);
        x.card();
        check.due("an OPENED one hears nothing", x.room(0), 0);
        x.coming(0, false, 20);
        x.start(0);
        check.due("what is coming is not captured", x.room(0), 0);
        x.card();
        check.due("a RUNNING one hears", x.room(0), 24);
        check.due("what came before the start, but was captured behind it", x.read(0), 10);
    }

    private static void notWhilePaused() {
        check.says("(but not while it is PAUSED), are x at 48,000,");
        Kernel x = new Kernel();
        Kernels.listener(x, 48000, 1, 16);
        x.coming(23, false, 2);
        x.card();
        x.pause(0);
        x.coming(0, false, 4);
        x.card();
        x.card();
        check.due("room of a PAUSED one", x.room(0), 24);
        check.due("a PAUSED one is not LATE", x.late(0), 0);
        check.due("it may be read", x.read(0), 0);
        x.start(0);
        x.coming(0, false, 6);
        x.card();
        check.due("room behind the pause", x.room(0), 47);
        for (int i = 1; i < 23; i++) {
            x.read(0);
        }
        check.due("the last frame before the pause", x.read(0), 1);
        check.due("the first one behind it", x.read(0), 3);
    }

    /** Between rates the frames before a pause and those behind it follow one another. */
    private static void pausedBetweenRates() {
        check.says("are x at 48,000, its frames y at its RATE.");
        for (int rate : Rates.ALL) {
            int[] frames = new int[72];
            Kernel x = new Kernel();
            Kernels.listener(x, rate, 1, 16);
            for (int period = 0; period < 3; period++) {
                capture(x, frames, period);
                x.pause(0);
                x.coming(12, false, 30000);
                x.card();
                x.start(0);
            }
            int ready = x.room(0);
            for (int n = 0; n < ready; n++) {
                check.due("frame " + n + " at " + rate, x.read(0), Rates.sample(frames, n, 48000, rate));
            }
        }
    }

    /** The card captures period number 'period' of samples that differ; they are noted in 'frames'. */
    private static void capture(Kernel x, int[] frames, int period) {
        for (int i = 0; i < 24; i += 3) {
            int at = 24 * period + i;
            frames[at] = at * 7919 % 60013 - 30000;
            x.coming(i, false, frames[at]);
            x.coming(i, true, frames[at]);
        }
        x.card();
    }

    private static void readyAtOnce() {
        check.says("When a period was captured, all frames y that need no later ones are ready;");
        int[][] due = {{3, 7, 11}, {4, 10, 15}, {6, 14, 22}, {8, 19, 30}, {11, 27, 43}, {15, 37, 59}, {24, 48, 72}};
        for (int i = 0; i < due.length; i++) {
            Kernel x = new Kernel();
            Kernels.listener(x, Rates.ALL[i], 1, 16);
            for (int ready : due[i]) {
                x.card();
                check.due("ready at " + Rates.ALL[i], x.room(0), ready);
            }
        }
    }

    private static void twoHundredAndOne() {
        check.says("if with them there would be more than 200 that were not read,");
        for (int unread = 176; unread <= 177; unread++) {
            Kernel x = new Kernel();
            Kernels.listener(x, 48000, 1, 16);
            Kernels.cards(x, 8);
            for (int i = 192; i > unread; i--) {
                x.read(0);
            }
            x.card();
            check.due("late of " + (unread + 24), x.late(0), unread == 176 ? 0 : 1);
            check.due("room of " + (unread + 24), x.room(0), unread == 176 ? 200 : 177);
            x.card();
            check.due("once more", x.late(0), unread == 176 ? 1 : 2);
            check.due("room", x.room(0), unread == 176 ? 200 : 177);
        }
    }

    /** At each rate it fills up; then just so many are read that the next ones fit, or one less. */
    private static void twoHundredOfEachRate() {
        check.says("more than 200 that were not read, all of these new ones are lost, and the client is LATE once more.");
        for (int rate : Rates.ALL) {
            for (int lacking = 0; lacking <= 1; lacking++) {
                Kernel x = new Kernel();
                Kernels.listener(x, rate, 1, 16);
                int periods = 0;
                while (readyBehind(periods + 1, rate) <= 200) {
                    x.card();
                    periods++;
                }
                check.due("filled up at " + rate, x.room(0), readyBehind(periods, rate));
                int next = readyBehind(periods + 1, rate) - readyBehind(periods, rate);
                int unread = 200 - next + lacking;
                while (x.room(0) > unread) {
                    x.read(0);
                }
                check.due("unread at " + rate, x.room(0), unread);
                x.card();
                check.due("late at " + rate, x.late(0), lacking);
                check.due("room at " + rate, x.room(0), lacking == 0 ? 200 : unread);
            }
        }
    }

    private static int readyBehind(int periods, int rate) {
        int ready = 0;
        while (Rates.framesFor(ready, 48000, rate) <= 24 * periods) {
            ready++;
        }
        return ready;
    }

    private static void allOfThemAreLost() {
        check.says("all of these new ones are lost,");
        Kernel x = new Kernel();
        Kernels.listener(x, 48000, 1, 16);
        Kernels.cards(x, 8);
        for (int i = 0; i < 24; i++) {
            x.coming(i, false, 1000);
        }
        x.card();
        for (int i = 0; i < 192; i++) {
            check.due("those before", x.read(0), 0);
        }
        check.dueThrow("not one of the new ones is there", Check.STATE, () -> x.read(0));
        x.coming(0, false, 14);
        x.card();
        check.due("the next ones are", x.read(0), 7);
        check.due("position counts what was read", x.position(0), 193);
        check.due("late", x.late(0), 1);
    }

    /** What is lost is frames y: the frames x of that period are still there for the next ones. */
    private static void lostOnesAreHeardByTheFilter() {
        check.says("and the client is LATE once more.");
        int rate = 32000;
        int[] frames = new int[24 * 14];
        Kernel x = new Kernel();
        Kernels.listener(x, rate, 1, 16);
        for (int period = 0; period < 13; period++) {
            capture(x, frames, period);
        }
        int kept = readyBehind(12, rate);
        int next = readyBehind(13, rate);
        check.due("kept before the loss", x.room(0), kept);
        check.due("late", x.late(0), 1);
        for (int n = 0; n < kept; n++) {
            x.read(0);
        }
        for (int i = 0; i < 24; i++) {
            x.coming(i, false, 0);
        }
        x.card();
        check.due("ready behind the loss", x.room(0), readyBehind(14, rate) - next);
        for (int n = next; n < readyBehind(14, rate); n++) {
            check.due("frame " + n, x.read(0), Rates.sample(frames, n, 48000, rate));
        }
    }

    private static void aFrameReadByHalfIsNotRead() {
        check.says("Its POSITION is how many frames were read wholly", "would be more than 200 that were not read");
        for (int numbers = 31; numbers <= 33; numbers++) {
            Kernel x = new Kernel();
            Kernels.listener(x, 48000, 2, 16);
            Kernels.cards(x, 8);
            for (int i = 0; i < numbers; i++) {
                x.read(0);
            }
            x.card();
            check.due("position behind numbers " + numbers, x.position(0), numbers / 2);
            check.due("late behind numbers " + numbers, x.late(0), numbers == 31 ? 1 : 0);
            check.due("room behind numbers " + numbers, x.room(0), 2 * (numbers == 31 ? 192 : 216) - numbers);
        }
    }

    /** Frames come and go for longer than any row that holds them can be. */
    private static void framesBeyondTheFirst256() {
        check.says("The next number of those captured");
        Kernel x = new Kernel();
        Kernels.listener(x, 48000, 1, 16);
        int[] frames = new int[24 * 14];
        Kernels.cards(x, 3);
        for (int period = 3; period < 14; period++) {
            capture(x, frames, period);
            for (int i = 0; i < 24; i++) {
                int n = 24 * (period - 3) + i;
                check.due("frame " + n, x.read(0), frames[n]);
            }
        }
        check.due("frames read", x.position(0), 264);
        check.due("late", x.late(0), 0);
    }
}
