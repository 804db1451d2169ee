/** Promise 23, tap, and what becomes of frames between rates, both ways. */
public final class ConvertingTest {
    private static final int[][] WRITTEN_OUT = {
        {0, 47, 190, 428, 762, 1190, 1714, 2333, 3056, 2333, 1714, 1190, 762, 428, 190, 47, 0},
        {16, 12, 108, 301, 590, 975, 1457, 2035, 2718, 2710, 2035, 1457, 975, 590, 301, 108, 12},
    };
    private static final Check check = new Check();

    private ConvertingTest() {
    }

    public static void main(String[] args) {
        tapsWrittenOut();
        tapsByTheirRule();
        tapRefuses();
        playedImpulse();
        playedImpulseOfTheSecondPeriod();
        playedConstant();
        roundedDown();
        capturedImpulse();
        capturedOverPeriods();
        check.end();
    }

    private static void tapsWrittenOut() {
        Kernel x = new Kernel();
        for (int[] row : WRITTEN_OUT) {
            for (int k = 0; k < 16; k++) {
                check.due("tap " + row[0] + " " + k, x.tap(row[0], k), row[k + 1]);
            }
        }
    }

    private static void tapsByTheirRule() {
        for (int p = 0; p < 32; p++) {
            Kernel x = new Kernel();
            long[] weights = new long[16];
            long sum = 0;
            for (int k = 0; k < 16; k++) {
                long d = Math.abs(32 * (k - 7) - p);
                weights[k] = d > 256 ? 0 : (256 - d) * (256 - d);
                sum += weights[k];
            }
            int all = 0;
            for (int k = 0; k < 16; k++) {
                all += x.tap(p, k);
                if (k != (p > 16 ? 8 : 7)) {
                    check.due("tap " + p + " " + k, x.tap(p, k), 16384 * weights[k] / sum);
                }
            }
            check.due("the taps of phase " + p, all, 16384);
        }
    }

    private static void tapRefuses() {
        Kernel x = new Kernel();
        for (int phase : new int[] {-1, 32, Integer.MIN_VALUE, Integer.MAX_VALUE}) {
            check.dueThrow("tap(phase)", Check.ARGUMENT, () -> x.tap(phase, 0));
        }
        for (int k : new int[] {-1, 16, Integer.MIN_VALUE, Integer.MAX_VALUE}) {
            check.dueThrow("tap(k)", Check.ARGUMENT, () -> x.tap(0, k));
        }
    }

    /** At 16000 the outputs lie in thirds of a frame: phases 0, 10 and 21. */
    private static void playedImpulse() {
        Kernel x = new Kernel();
        Kernels.player(x, 16000, 2, 16);
        x.write(0, 16384);
        Kernels.fill(x, 0, 0, 31);
        Kernels.play(x);
        check.due("16 frames are enough", x.late(0), 0);
        int[] phases = {0, 10, 21};
        for (int n = 0; n < 24; n++) {
            check.due("output " + n, x.played(0, n, false), x.tap(phases[n % 3], 7 - n / 3));
            check.due("right of output " + n, x.played(0, n, true), 0);
        }
    }

    private static void playedImpulseOfTheSecondPeriod() {
        Kernel x = new Kernel();
        Kernels.player(x, 44100, 1, 16);
        Kernels.fill(x, 0, 0, 40);
        x.write(0, 16384);
        Kernels.fill(x, 0, 0, 12);
        Kernels.play(x);
        Kernels.play(x);
        check.due("53 frames are enough", x.late(0), 0);
        for (int j = 0; j < 24; j++) {
            int n = 24 + j;
            int place = n * 44100 / 48000;
            int phase = n * 44100 % 48000 * 32 / 48000;
            int k = 40 - place + 7;
            check.due("output " + n, x.played(0, j, false), k < 16 ? x.tap(phase, k) : 0);
        }
    }

    private static void playedConstant() {
        for (int rate : new int[] {8000, 11025, 22050, 32000, 44100}) {
            Kernel x = new Kernel();
            x.limit(false);
            Kernels.player(x, rate, 1, 16);
            Kernels.fill(x, 0, -32768, 100);
            Kernels.play(x);
            Kernels.play(x);
            Kernels.play(x);
            check.due("a constant stays one at " + rate, x.played(0, 23, true), -32768);
        }
    }

    private static void roundedDown() {
        Kernel x = new Kernel();
        Kernels.player(x, 16000, 1, 16);
        x.write(0, -1);
        Kernels.fill(x, 0, 0, 15);
        Kernels.play(x);
        check.due("a part of -1", x.played(0, 5, false), -1);
    }

    /** At 16000 frame n lies at the captured frame 3 n, phase 0. */
    private static void capturedImpulse() {
        Kernel x = new Kernel();
        Kernels.listener(x, 16000, 2, 16);
        x.coming(10, true, 16384);
        x.card();
        check.due("frames 0 to 5 are ready", x.room(0), 12);
        for (int n = 0; n < 6; n++) {
            check.due("left of frame " + n, x.read(0), 0);
            int k = 10 + 7 - 3 * n;
            check.due("frame " + n, x.read(0), k < 16 ? x.tap(0, k) : 0);
        }
    }

    private static void capturedOverPeriods() {
        Kernel x = new Kernel();
        Kernels.listener(x, 44100, 1, 16);
        x.card();
        x.card();
        x.coming(3, false, 16384);
        x.coming(3, true, 16384);
        x.card();
        x.card();
        int impulse = 51;
        int frames = x.room(0);
        for (int n = 0; n < frames; n++) {
            int k = impulse - n * 48000 / 44100 + 7;
            int phase = (int) (n * 48000L % 44100 * 32 / 44100);
            check.due("frame " + n, x.read(0), k >= 0 && k < 16 ? x.tap(phase, k) : 0);
        }
    }
}
