/** Promises 20 to 22, clipped, limit and value, and the sum of the clients. */
public final class LimiterTest {
    private static final Check check = new Check();

    private LimiterTest() {
    }

    public static void main(String[] args) {
        sumOfClients();
        valueFalls();
        valueFallsByExactQuotient();
        theGreaterSizeCounts();
        limitedSumsAreRoundedDown();
        valueRises();
        valueRisesToItsFirst();
        framesCountWithoutTheLimiter();
        limit();
        clipped();
        check.end();
    }

    private static void sumOfClients() {
        Kernel x = new Kernel();
        for (int c = 0; c < 6; c++) {
            Kernels.player(x, 48000, 1, 16);
            Kernels.fill(x, c, c % 2 == 0 ? 101 : -50, 24);
            x.gain(c, 0.5);
        }
        Kernels.play(x);
        check.due("each is rounded down before they are summed", x.played(0, 9, false), 3 * 50 + 3 * -25);
    }

    /** Each client writes a period of its number, on both channels. */
    private static void writePeriod(Kernel x, int... numbers) {
        for (int c = 0; c < numbers.length; c++) {
            Kernels.fill(x, c, numbers[c], 24);
        }
    }

    private static Kernel players(int count) {
        Kernel x = new Kernel();
        for (int c = 0; c < count; c++) {
            Kernels.player(x, 48000, 1, 16);
        }
        return x;
    }

    private static void valueFalls() {
        Kernel x = players(2);
        writePeriod(x, 32767, 0);
        Kernels.play(x);
        check.due("32767 changes no value", x.value(), 4096);
        check.due("nor itself", x.played(0, 0, false), 32767);
        writePeriod(x, -32767, -1);
        Kernels.play(x);
        check.due("-32768 does", x.value(), 4095);
        check.due("and is brought down", x.played(0, 0, false), -32760);
        writePeriod(x, 32767, 32767);
        Kernels.play(x);
        check.due("twice the greatest halves it", x.value(), 2048);
        check.due("and gives the greatest", x.played(0, 23, false), 32767);
        check.due("nothing is clipped", x.clipped(), 0);
    }

    /** With 4095 the size 32776 gives 32767.998: more than 32767, though rounded down it is not. */
    private static void valueFallsByExactQuotient() {
        Kernel x = players(2);
        for (int i = 0; i < 24; i++) {
            x.write(0, i == 0 ? 32767 : 32700);
            x.write(1, i == 0 ? 1 : i == 1 ? 76 : 0);
        }
        Kernels.play(x);
        check.due("value", x.value(), 4094);
        check.due("the frame of 32768", x.played(0, 0, false), 32760);
        check.due("the frame of 32776", x.played(0, 1, false), 32759);
    }

    private static void theGreaterSizeCounts() {
        int[][] frames = {{-32768, 100}, {100, -32768}, {32767, -32768}, {-32768, 32767}};
        for (int[] frame : frames) {
            Kernel x = new Kernel();
            Kernels.player(x, 48000, 2, 16);
            for (int i = 0; i < 24; i++) {
                x.write(0, frame[0]);
                x.write(0, frame[1]);
            }
            Kernels.play(x);
            check.due("value of left " + frame[0] + " and right " + frame[1], x.value(), 4095);
        }
    }

    private static void limitedSumsAreRoundedDown() {
        Kernel x = players(1);
        x.write(0, -32768);
        x.write(0, -1);
        x.write(0, 1);
        Kernels.fill(x, 0, 0, 21);
        Kernels.play(x);
        check.due("-1 times 4095 / 4096", x.played(0, 1, false), -1);
        check.due("1 times 4095 / 4096", x.played(0, 2, false), 0);
    }

    /** Frames 0, 32, 64 and so on raise it: the second period has 32, the third 64, the fourth none. */
    private static void valueRises() {
        Kernel x = players(2);
        writePeriod(x, 32767, 32767);
        int[] due = {2048, 2064, 2080, 2080, 2096};
        for (int value : due) {
            Kernels.play(x);
            check.due("value", x.value(), value);
        }
        Kernel y = players(1);
        Kernels.fill(y, 0, 16384, 48);
        int[] halves = {16384, 16384};
        for (int sample : halves) {
            Kernels.play(y);
            check.due("a value of 4096 changes nothing", y.played(0, 23, false), sample);
        }
    }

    private static void valueRisesToItsFirst() {
        Kernel x = players(1);
        Kernels.fill(x, 0, -32768, 24);
        Kernels.play(x);
        check.due("value", x.value(), 4095);
        Kernels.play(x);
        check.due("not above 4096", x.value(), 4096);
    }

    private static void framesCountWithoutTheLimiter() {
        Kernel x = players(2);
        writePeriod(x, 32767, 32767);
        Kernels.play(x);
        x.limit(false);
        Kernels.play(x);
        check.due("without the limiter nothing rises", x.value(), 2048);
        x.limit(true);
        Kernels.play(x);
        check.due("frame 64 is in the third period", x.value(), 2064);
        Kernels.play(x);
        check.due("the fourth has none", x.value(), 2064);
    }

    private static void limit() {
        Kernel x = players(2);
        check.due("on at first", x.limit(false), true);
        check.due("off", x.limit(false), false);
        writePeriod(x, 20000, 20000);
        Kernels.play(x);
        check.due("a value is not used", x.value(), 4096);
        check.due("sums are cut", x.played(0, 0, false), 32767);
        check.due("off again", x.limit(true), false);
        check.due("on", x.limit(true), true);
        writePeriod(x, 20000, 20000);
        Kernels.play(x);
        // 32767 * 4096 / 40000 is 3355.3..; 40000 * 3355 / 4096 is 32763.6..
        check.due("sums are limited", x.played(0, 0, false), 32763);
        check.due("value", x.value(), 3355);
        x.limit(false);
        writePeriod(x, 10000, 1);
        Kernels.play(x);
        check.due("sums are not changed without it", x.played(0, 0, false), 10001);
    }

    private static void clipped() {
        Kernel x = new Kernel();
        x.limit(false);
        Kernels.player(x, 48000, 2, 16);
        Kernels.player(x, 48000, 2, 16);
        int[][] frames = {{32767, -32768, 0, 0}, {32767, -32768, 1, -1}, {32767, -32768, 1, 0}, {5, 5, 5, 5}};
        for (int i = 0; i < 24; i++) {
            int[] frame = frames[Math.min(i, 3)];
            x.write(0, frame[0]);
            x.write(0, frame[1]);
            x.write(1, frame[2]);
            x.write(1, frame[3]);
        }
        x.prepare();
        check.due("each sample that is cut", x.clipped(), 3);
        x.card();
        check.due("cut above", x.played(0, 1, false), 32767);
        check.due("cut below", x.played(0, 1, true), -32768);
        check.due("not cut", x.played(0, 3, true), 10);
        Kernels.play(x);
        check.due("they stay", x.clipped(), 3);
    }
}
