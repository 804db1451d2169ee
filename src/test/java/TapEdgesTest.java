/** The edges of promise 23, tap, and of frames between rates. */
public final class TapEdgesTest {
    private static final Check check = new Check();

    private TapEdgesTest() {
    }

    public static void main(String[] args) {
        everyTap();
        farthestTaps();
        tapsRoundDown();
        whatTheyLack();
        framesBeforeTheFirst();
        phases();
        sameRate();
        roundedDown();
        sixteenTaps();
        lastFrameNeeded();
        check.end();
    }

    private static void everyTap() {
        check.says("TAPS: of a PHASE p 0 .. 31 the WEIGHT of tap k 0 .. 15 is the square of 256 - d,");
        Kernel x = new Kernel();
        for (int phase = 0; phase < 32; phase++) {
            for (int k = 0; k < 16; k++) {
                check.due("tap " + phase + " " + k, x.tap(phase, k), Rates.tap(phase, k));
            }
        }
        Kernel y = new Kernel();
        check.dueThrow("phase -1", Check.ARGUMENT, () -> y.tap(-1, 0));
        check.dueThrow("phase 32", Check.ARGUMENT, () -> y.tap(32, 15));
        check.dueThrow("tap -1", Check.ARGUMENT, () -> y.tap(0, -1));
        check.dueThrow("tap 16", Check.ARGUMENT, () -> y.tap(31, 16));
    }

    /** The greatest distance is 256, of tap 15 of phase 0, and the next 255, of tap 0 of phase 31. */
    private static void farthestTaps() {
        check.says("d being the distance of 32 (k - 7) from p, or 0 if d is above 256;");
        Kernel x = new Kernel();
        check.due("tap 15 of phase 0", x.tap(0, 15), 0);
        check.due("tap 15 of phase 1", x.tap(1, 15), 0);
        check.due("tap 15 of phase 31", x.tap(31, 15), 44);
        check.due("tap 0 of phase 0", x.tap(0, 0), 47);
        check.due("tap 0 of phase 31", x.tap(31, 0), 0);
        check.due("tap 14 of phase 0", x.tap(0, 14), 47);
    }

    private static void tapsRoundDown() {
        check.says("the tap is 16384 times the weight, divided by the sum of the sixteen weights, rounded down;");
        // The weights of phase 0 are 1024 times 1, 4, 9, .. 64, .. 4, 1, 0, their sum 352256, and 16384 * 1024 / 352256 47.6..
        int[] due = {47, 190, 428, 762, 1190, 1714, 2333, 3056, 2333, 1714, 1190, 762, 428, 190, 47, 0};
        Kernel x = new Kernel();
        for (int k = 0; k < 16; k++) {
            check.due("tap " + k + " of phase 0", x.tap(0, k), due[k]);
        }
    }

    private static void whatTheyLack() {
        check.says("what these lack of 16384 is added to tap 7, of phases above 16 to tap 8.");
        Kernel x = new Kernel();
        for (int phase = 0; phase < 32; phase++) {
            int lacking = 16384;
            for (int k = 0; k < 16; k++) {
                lacking -= Rates.share(phase, k);
            }
            int seventh = x.tap(phase, 7) - Rates.share(phase, 7);
            int eighth = x.tap(phase, 8) - Rates.share(phase, 8);
            check.due("added to tap 7 of phase " + phase, seventh, phase > 16 ? 0 : lacking);
            check.due("added to tap 8 of phase " + phase, eighth, phase > 16 ? lacking : 0);
            check.due("they lack something, so that this is seen", lacking > 0, true);
        }
        check.due("tap 7 of phase 16", x.tap(16, 7), 2718);
        check.due("tap 8 of phase 16", x.tap(16, 8), 2710);
        check.due("tap 7 of phase 17", x.tap(17, 7), Rates.share(17, 7));
        check.due("tap 8 of phase 17", x.tap(17, 8) > Rates.share(17, 8), true);
    }

    /** At output 0 the frames of taps 0 to 6 are before the first one. */
    private static void framesBeforeTheFirst() {
        check.says("BETWEEN RATES. From frames x(0), x(1), .. at a rate a (before them all are 0) frames y(0), y(1), .. at b:");
        for (int rate : new int[] {8000, 11025, 16000, 22050, 32000, 44100}) {
            Kernel x = new Kernel();
            Kernels.player(x, rate, 1, 16);
            Kernels.fill(x, 0, 16384, 60);
            Kernels.play(x);
            for (int n = 0; n < 24; n++) {
                int there = 0;
                for (int k = Math.max(0, 7 - Rates.place(n, rate, 48000)); k < 16; k++) {
                    there += Rates.tap(Rates.phase(n, rate, 48000), k);
                }
                check.due("output " + n + " at " + rate, x.played(0, n, false), there);
            }
        }
        Kernel y = new Kernel();
        Kernels.listener(y, 8000, 2, 16);
        for (int i = 0; i < 24; i++) {
            y.coming(i, true, 16384);
        }
        y.card();
        check.due("left of frame 0", y.read(0), 0);
        check.due("right of frame 0", y.read(0), 16384 - 47 - 190 - 428 - 762 - 1190 - 1714 - 2333);
        check.due("left of frame 1", y.read(0), 0);
        check.due("right of frame 1, with one frame before the first", y.read(0), 16384 - 47);
        y.read(0);
        check.due("right of frame 2, with none", y.read(0), 16384);
    }

    /** The outputs of 32000 lie at 0, 2/3, 4/3, those of 8000 in sixths: the phases are cut, not rounded. */
    private static void phases() {
        check.says("y(n) lies at n a / b, i being its whole part, p the whole part of 32 times the rest.");
        int[] thirds = {0, 21, 10};
        int[] sixths = {0, 5, 10, 16, 21, 26};
        Kernel x = new Kernel();
        Kernels.player(x, 32000, 1, 16);
        Kernels.fill(x, 0, 0, 20);
        x.write(0, 16384);
        Kernels.fill(x, 0, 0, 3);
        Kernels.play(x);
        for (int n = 18; n < 24; n++) {
            check.due("output " + n + " at 32000", x.played(0, n, true), Rates.tap(thirds[n % 3], 20 - n * 2 / 3 + 7));
        }
        Kernel y = new Kernel();
        Kernels.player(y, 8000, 1, 16);
        Kernels.fill(y, 0, 0, 4);
        y.write(0, 16384);
        Kernels.fill(y, 0, 0, 7);
        Kernels.play(y);
        for (int n = 0; n < 24; n++) {
            check.due("output " + n + " at 8000", y.played(0, n, false), Rates.tap(sixths[n % 6], 4 - n / 6 + 7));
        }
    }

    private static void sameRate() {
        check.says("If a is b, it is x(i).");
        Kernel x = new Kernel();
        Kernels.player(x, 48000, 1, 16);
        Kernels.listener(x, 48000, 1, 16);
        for (int i = 0; i < 24; i++) {
            x.write(0, i * i - 200);
            x.coming(i, false, i * i - 100);
            x.coming(i, true, i * i - 100);
        }
        Kernels.play(x);
        for (int i = 0; i < 24; i++) {
            check.due("output " + i, x.played(0, i, false), i * i - 200);
            check.due("captured " + i, x.read(1), i * i - 100);
        }
    }

    private static void roundedDown() {
        check.says("Otherwise each sample is the sum,", "divided by 16384, rounded down. It NEEDS");
        int[] numbers = {1, -1, 5, -5, 32767, -32768};
        for (int number : numbers) {
            Kernel x = new Kernel();
            Kernels.player(x, 16000, 1, 16);
            x.write(0, number);
            Kernels.fill(x, 0, 0, 15);
            Kernels.play(x);
            for (int n = 0; n < 24; n++) {
                int tap = Rates.tap(Rates.phase(n, 16000, 48000), 7 - n / 3);
                check.due("output " + n + " of " + number, x.played(0, n, false), Math.floorDiv(tap * number, 16384));
            }
        }
    }

    /** The frame that tap 15 meets is used, and so is the one that tap 0 meets; the ones beside them are not. */
    private static void sixteenTaps() {
        check.says("for k 0 .. 15, of tap k of phase p times that of x(i + k - 7),");
        for (int impulse = 8; impulse <= 40; impulse++) {
            Kernel x = new Kernel();
            Kernels.player(x, 44100, 1, 16);
            Kernels.fill(x, 0, 0, impulse);
            x.write(0, 32767);
            Kernels.fill(x, 0, 0, 52 - impulse - 1);
            x.prepare();
            x.prepare();
            Kernels.cards(x, 2);
            check.due("late", x.late(0), 0);
            // Output 24 lies at 22.05, phase 1: x(15) meets tap 0 and x(30) tap 15.
            int k = impulse - 15;
            int due = k < 0 || k > 15 ? 0 : Math.floorDiv(Rates.tap(1, k) * 32767, 16384);
            check.due("output 24 of an impulse at " + impulse, x.played(0, 0, false), due);
            // Output 47 lies at 43.18.., phase 5: x(36) meets tap 0.
            int late = impulse - 36;
            int dueLate = late < 0 ? 0 : Math.floorDiv(Rates.tap(5, late) * 32767, 16384);
            check.due("output 47 of an impulse at " + impulse, x.played(0, 23, false), dueLate);
        }
    }

    /** Captured frame 8 is needed for frame 0 at every rate but the card's own, and frame 23 is the last there is. */
    private static void lastFrameNeeded() {
        check.says("It NEEDS x(i + 8) (x(i), if a is b).");
        int[] rates = {16000, 32000};
        int[] readyOnes = {6, 11};
        // At 16000 frame 5 lies at 15 and needs 23; at 32000 frame 10 lies at 15 and needs 23, frame 11 at 16.5.
        for (int i = 0; i < rates.length; i++) {
            Kernel x = new Kernel();
            Kernels.listener(x, rates[i], 1, 16);
            x.coming(23, false, 32767);
            x.coming(23, true, 32767);
            x.card();
            check.due("ready at " + rates[i], x.room(0), readyOnes[i]);
            for (int n = 0; n < readyOnes[i]; n++) {
                int k = 23 - Rates.place(n, 48000, rates[i]) + 7;
                int due = k > 15 ? 0 : Math.floorDiv(Rates.tap(Rates.phase(n, 48000, rates[i]), k) * 32767, 16384);
                check.due("frame " + n + " at " + rates[i], x.read(0), due);
            }
        }
    }
}
