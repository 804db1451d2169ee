/** The edges of what a client gives when its frames are not enough: one that is LATE fades, one that is DRAINING ends. */
public final class GapEdgesTest {
    /** A rate, how many periods, and the greatest number of frames with which it is STOPPED behind them. */
    private static final int[][] STOPS = {{8000, 2, 1}, {8000, 3, 5}, {11025, 2, 4}, {11025, 3, 9}, {16000, 1, 1},
        {16000, 2, 9}, {22050, 1, 4}, {22050, 2, 15}, {32000, 1, 9}, {32000, 2, 25}, {44100, 1, 15}, {44100, 2, 37},
        {48000, 1, 24}, {48000, 2, 48}};
    private static final Check check = new Check();

    private GapEdgesTest() {
    }

    public static void main(String[] args) {
        justEnough();
        oneTooFew();
        fadeOfEachFrame();
        fadeRoundsDown();
        fadeOfTheOutputBetweenRates();
        fadeHasGain();
        lastIsZeroAtFirst();
        lastIsZeroBehindAFade();
        lastIsKeptWhileNothingIsGiven();
        lateCounts();
        drainedFramesThatAreNotWritten();
        drainedBetweenRates();
        drainedBehindManyFrames();
        stoppedOrNot();
        stoppedWithoutFrames();
        drainedNeverFades();
        check.end();
    }

    private static void justEnough() {
        check.says("MAKING a period READY: each client that plays and is RUNNING gives 24 outputs, if all frames that they need are written.");
        for (int rate : Rates.ALL) {
            int enough = Rates.framesFor(23, rate, 48000);
            for (int written = enough - 1; written <= enough; written++) {
                Kernel x = new Kernel();
                Kernels.player(x, rate, 1, 16);
                Kernels.fill(x, 0, 8000, written);
                Kernels.play(x);
                boolean gives = written == enough;
                check.due("late of " + written + " at " + rate, x.late(0), gives ? 0 : 1);
                check.due("position of " + written + " at " + rate, x.position(0), gives ? Rates.place(24, rate, 48000) : 0);
                check.due("samples of " + written + " at " + rate, x.played(0, 23, false) != 0, gives);
            }
        }
    }

    /** A LATE client gives none of its outputs, so all of them come when the frame that lacked is there. */
    private static void oneTooFew() {
        check.says("Otherwise it is LATE once more, gives none, and instead,");
        Kernel x = new Kernel();
        Kernels.player(x, 48000, 1, 16);
        for (int i = 1; i <= 23; i++) {
            x.write(0, i);
        }
        Kernels.play(x);
        check.due("late", x.late(0), 1);
        for (int i = 0; i < 24; i++) {
            check.due("no output", x.played(0, i, false), 0);
        }
        x.write(0, 24);
        Kernels.play(x);
        check.due("late no more", x.late(0), 1);
        for (int i = 0; i < 24; i++) {
            check.due("output " + i, x.played(0, i, true), i + 1);
        }
    }

    private static void fadeOfEachFrame() {
        check.says("for j 0 .. 23, its LAST samples times 15 - j, divided by 16, rounded down, for j below 15; 0 else;");
        Kernel x = new Kernel();
        Kernels.player(x, 48000, 2, 16);
        Kernels.fill(x, 0, 1, 46);
        Kernels.numbers(x, 0, 1600, -3200);
        Kernels.play(x);
        Kernels.play(x);
        for (int j = 0; j < 24; j++) {
            check.due("left of " + j, x.played(0, j, false), j < 15 ? 100 * (15 - j) : 0);
            check.due("right of " + j, x.played(0, j, true), j < 15 ? -200 * (15 - j) : 0);
        }
    }

    private static void fadeRoundsDown() {
        check.says("its LAST samples times 15 - j, divided by 16, rounded down,");
        int[][] lasts = {{1, -1}, {-1, 1}, {16, -16}, {17, -17}, {-17, 17}, {32767, -32767}, {-32768, 15}};
        int[][] firsts = {{0, -1}, {-1, 0}, {15, -15}, {15, -16}, {-16, 15}, {30719, -30720}, {-30720, 14}};
        int[][] ends = {{0, -1}, {-1, 0}, {1, -1}, {1, -2}, {-2, 1}, {2047, -2048}, {-2048, 0}};
        for (int n = 0; n < lasts.length; n++) {
            Kernel x = new Kernel();
            Kernels.player(x, 48000, 2, 16);
            x.limit(false);
            Kernels.fill(x, 0, 0, 46);
            Kernels.numbers(x, 0, lasts[n]);
            Kernels.play(x);
            Kernels.play(x);
            check.due("left of 0", x.played(0, 0, false), firsts[n][0]);
            check.due("right of 0", x.played(0, 0, true), firsts[n][1]);
            check.due("left of 14", x.played(0, 14, false), ends[n][0]);
            check.due("right of 14", x.played(0, 14, true), ends[n][1]);
            check.due("left of 15", x.played(0, 15, false), 0);
            check.due("right of 15", x.played(0, 15, true), 0);
        }
    }

    /** What fades is the output given last, not the frame written last. */
    private static void fadeOfTheOutputBetweenRates() {
        check.says("LAST are the samples of the output given last,");
        int[] frames = new int[40];
        for (int i = 0; i < frames.length; i++) {
            frames[i] = 20000 - 701 * i;
        }
        Kernel x = new Kernel();
        Kernels.player(x, 44100, 1, 16);
        Kernels.numbers(x, 0, frames);
        Kernels.play(x);
        int last = x.played(0, 23, false);
        check.due("the output given last", last, Rates.sample(frames, 23, 44100, 48000));
        Kernels.play(x);
        check.due("late", x.late(0), 1);
        for (int j = 0; j < 24; j++) {
            check.due("fade " + j, x.played(0, j, true), j < 15 ? Math.floorDiv(last * (15 - j), 16) : 0);
        }
    }

    /** The gain that counts is the one when the fade is made; LAST is what it was before any gain. */
    private static void fadeHasGain() {
        check.says("Each sample is times the client's GAIN,");
        Kernel x = new Kernel();
        Kernels.player(x, 48000, 1, 16);
        Kernels.fill(x, 0, 1600, 24);
        x.gain(0, 0);
        Kernels.play(x);
        check.due("an output with no gain", x.played(0, 23, false), 0);
        x.gain(0, 0.5);
        Kernels.play(x);
        check.due("fade with half of it", x.played(0, 0, false), 750);
        check.due("its end", x.played(0, 14, false), 50);
    }

    private static void lastIsZeroAtFirst() {
        check.says("the output given last, 0 at first.");
        Kernel x = new Kernel();
        Kernels.player(x, 48000, 1, 16);
        Kernels.fill(x, 0, 5000, 23);
        Kernels.play(x);
        check.due("late", x.late(0), 1);
        check.due("first", x.played(0, 0, false), 0);
        check.due("last", x.played(0, 23, false), 0);
    }

    private static void lastIsZeroBehindAFade() {
        check.says("its LAST ones are 0 then.");
        Kernel x = new Kernel();
        Kernels.player(x, 48000, 2, 16);
        Kernels.fill(x, 0, 5000, 48);
        Kernels.play(x);
        Kernels.play(x);
        check.due("a fade", x.played(0, 0, true), 4687);
        Kernels.play(x);
        check.due("a second one, left", x.played(0, 0, false), 0);
        check.due("a second one, right", x.played(0, 0, true), 0);
        check.due("it is LATE all the same", x.late(0), 2);
        Kernels.fill(x, 0, 320, 48);
        Kernels.play(x);
        Kernels.play(x);
        check.due("an output makes a new one", x.played(0, 0, false), 300);
    }

    private static void lastIsKeptWhileNothingIsGiven() {
        check.says("LAST are the samples of the output given last, 0 at first.");
        Kernel x = new Kernel();
        Kernels.player(x, 48000, 1, 16);
        Kernels.fill(x, 0, 1600, 24);
        Kernels.play(x);
        x.pause(0);
        Kernels.play(x);
        check.due("a PAUSED one does not fade", x.played(0, 0, false), 0);
        x.start(0);
        x.card();
        Kernels.play(x);
        check.due("it fades when it is RUNNING again", x.played(0, 0, false), 1500);
    }

    private static void lateCounts() {
        check.says("How often it was LATE.");
        Kernel x = new Kernel();
        int first = Kernels.player(x, 48000, 1, 16);
        int second = Kernels.player(x, 8000, 1, 16);
        check.due("at first", x.late(first) + x.late(second), 0);
        Kernels.fill(x, first, 1, 24);
        for (int period = 0; period < 4; period++) {
            x.prepare();
        }
        check.due("one whose frames were enough for one period", x.late(first), 3);
        check.due("one without frames", x.late(second), 4);
        x.prepare();
        check.due("a period that is not made", x.late(second), 4);
        Kernels.cards(x, 5);
        check.due("the card makes nobody LATE", x.late(second), 4);
        x.pause(second);
        x.prepare();
        check.due("a PAUSED one is not", x.late(second), 4);
        check.due("a RUNNING one is", x.late(first), 4);
    }

    private static void drainedFramesThatAreNotWritten() {
        check.says("One that is DRAINING gives 24 outputs, frames that are not written being 0;");
        for (int written = 0; written <= 25; written++) {
            Kernel x = new Kernel();
            Kernels.player(x, 48000, 1, 16);
            Kernels.fill(x, 0, 77, written);
            x.drain(0);
            Kernels.play(x);
            for (int i = 0; i < 24; i++) {
                check.due("output " + i + " of " + written, x.played(0, i, false), i < written ? 77 : 0);
            }
            Kernels.play(x);
            check.due("output 24 of " + written, x.played(0, 0, true), written > 24 ? 77 : 0);
            check.due("output 25 of " + written, x.played(0, 1, true), 0);
        }
    }

    private static void drainedBetweenRates() {
        check.says("frames that are not written being 0;");
        for (int rate : Rates.ALL) {
            int[] frames = new int[20];
            for (int i = 0; i < frames.length; i++) {
                frames[i] = i % 2 == 0 ? 12000 + i : -9000 - 5 * i;
            }
            Kernel x = new Kernel();
            Kernels.player(x, rate, 1, 16);
            Kernels.numbers(x, 0, frames);
            x.drain(0);
            for (int n = 0; n < 24 * 7; n++) {
                if (n % 24 == 0) {
                    Kernels.play(x);
                }
                check.due("output " + n + " at " + rate, x.played(0, n % 24, true), Rates.sample(frames, n, rate, 48000));
            }
            check.due("state at " + rate, x.state(0), 4);
        }
    }

    /** Frames that are not written are 0 also where older ones, long given, were held before. */
    private static void drainedBehindManyFrames() {
        check.says("DRAINING gives 24 outputs, frames that are not written being 0;");
        for (int rate : new int[] {22050, 32000, 44100, 48000}) {
            int[] frames = new int[290];
            Kernel x = new Kernel();
            Kernels.player(x, rate, 1, 16);
            int periods = 0;
            for (int i = 0; i < frames.length; i++) {
                frames[i] = 9000 + 31 * (i % 100);
                while (!x.write(0, frames[i])) {
                    Kernels.play(x);
                    periods++;
                }
            }
            x.drain(0);
            while (x.state(0) == 3) {
                Kernels.play(x);
                for (int i = 0; i < 24 && x.ahead(0) == 0; i += 3) {
                    int due = Rates.sample(frames, 24 * periods + i, rate, 48000);
                    check.due("output " + (24 * periods + i) + " at " + rate, x.played(0, i, false), due);
                }
                periods++;
            }
            check.due("position at " + rate, x.position(0), Rates.place(24 * periods, rate, 48000));
        }
    }

    private static void stoppedOrNot() {
        check.says("it is STOPPED then, if its PLACE less 7 (less 0 at 48,000) is not below how many were written.");
        for (int[] stop : STOPS) {
            check.due("so many frames at " + stop[0], stateBehind(stop[0], stop[1], stop[2]), 4);
            check.due("one frame more at " + stop[0], stateBehind(stop[0], stop[1], stop[2] + 1), 3);
            check.due("a period before at " + stop[0], stateBehind(stop[0], stop[1] - 1, stop[2]), 3);
            check.due("a period more at " + stop[0], stateBehind(stop[0], stop[1] + 1, stop[2] + 1), 4);
        }
    }

    private static int stateBehind(int rate, int periods, int written) {
        Kernel x = new Kernel();
        Kernels.player(x, rate, 1, 16);
        Kernels.fill(x, 0, 1, written);
        x.drain(0);
        for (int period = 0; period < periods; period++) {
            x.prepare();
        }
        return x.state(0);
    }

    private static void stoppedWithoutFrames() {
        check.says("if its PLACE less 7 (less 0 at 48,000) is not below");
        int[] periods = {2, 2, 1, 1, 1, 1, 1};
        for (int i = 0; i < periods.length; i++) {
            check.due("none written at " + Rates.ALL[i], stateBehind(Rates.ALL[i], periods[i], 0), 4);
            check.due("and not before at " + Rates.ALL[i], stateBehind(Rates.ALL[i], periods[i] - 1, 0), 3);
        }
    }

    private static void drainedNeverFades() {
        check.says("One that is DRAINING gives 24 outputs,");
        Kernel x = new Kernel();
        Kernels.player(x, 48000, 1, 16);
        Kernels.fill(x, 0, 4000, 25);
        Kernels.play(x);
        x.drain(0);
        Kernels.play(x);
        check.due("the frame that was left", x.played(0, 0, false), 4000);
        check.due("nothing behind it", x.played(0, 1, false), 0);
        check.due("the end", x.state(0), 4);
        Kernels.play(x);
        check.due("nothing fades", x.played(0, 0, false), 0);
        check.due("late", x.late(0), 0);
        check.due("position", x.position(0), 48);
    }
}
