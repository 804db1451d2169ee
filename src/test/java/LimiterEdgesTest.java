/** The edges of promises 20 to 22, clipped, limit and value, and of the sums of all clients. */
public final class LimiterEdgesTest {
    private static final Check check = new Check();

    private LimiterEdgesTest() {
    }

    public static void main(String[] args) {
        atFirst();
        justTooLarge();
        theGreatestValue();
        theValueThatIsThere();
        notRoundedBefore();
        theGreaterSize();
        sixClients();
        raisedAtFrame32();
        raisedBeforeItIsUsed();
        atMost4096();
        lastsOverPeriods();
        framesNeverMade();
        limitedSumsRoundDown();
        withoutItSumsStay();
        withoutItTheValueStays();
        cutOrNot();
        clippedWhenMade();
        neverClippedWithIt();
        limitAnswersWhatWas();
        limitFromNowOn();
        check.end();
    }

    /** Two clients of two channels that play; their sum may be twice what a sample can be. */
    private static Kernel two() {
        Kernel x = new Kernel();
        Kernels.player(x, 48000, 2, 16);
        Kernels.player(x, 48000, 2, 16);
        return x;
    }

    /** Writes a frame of a sum, which the two clients share, so that neither number is too large. */
    private static void sum(Kernel x, int left, int right) {
        int[] first = {Math.floorDiv(left, 2), Math.floorDiv(right, 2)};
        Kernels.frames(x, 0, first);
        Kernels.frames(x, 1, new int[] {left - first[0], right - first[1]});
    }

    private static void sums(Kernel x, int left, int right, int times) {
        for (int i = 0; i < times; i++) {
            sum(x, left, right);
        }
    }

    /** The value behind a period of which one frame, the first, is not 0. */
    private static int valueBehind(int left, int right) {
        Kernel x = two();
        sum(x, left, right);
        sums(x, 0, 0, 23);
        x.prepare();
        return x.value();
    }

    private static void atFirst() {
        check.says("With the LIMITER (on at first): its VALUE is 4096 at first.", "The LIMITER's VALUE.");
        Kernel x = two();
        check.due("value of a new object", x.value(), 4096);
        check.due("limiter of a new object", x.limit(true), true);
        sums(x, 32767, -32767, 24);
        Kernels.play(x);
        check.due("left", x.played(0, 0, false), 32767);
        check.due("right", x.played(0, 23, true), -32767);
        check.due("value", x.value(), 4096);
    }

    private static void justTooLarge() {
        check.says("times VALUE, divided by 4096, is more than 32767,");
        check.due("32767", valueBehind(32767, 0), 4096);
        check.due("32768", valueBehind(32768, 0), 4095);
        check.due("-32767", valueBehind(-32767, 0), 4096);
        check.due("-32768", valueBehind(-32768, 0), 4095);
        check.due("32767 of the right", valueBehind(0, 32767), 4096);
        check.due("32768 of the right", valueBehind(0, 32768), 4095);
        check.due("-32767 of the right", valueBehind(0, -32767), 4096);
        check.due("-32768 of the right", valueBehind(0, -32768), 4095);
    }

    /** 32767 * 4096 divided by 2048 is 65534 just so; by 4095 it is 32775.001.. */
    private static void theGreatestValue() {
        check.says("VALUE becomes the greatest one with which it is not;");
        check.due("32775", valueBehind(32775, 0), 4095);
        check.due("32776", valueBehind(32776, 0), 4094);
        check.due("65533", valueBehind(65533, 0), 2048);
        check.due("65534", valueBehind(65534, 0), 2048);
        check.due("65535 of below zero", valueBehind(-65535, 0), 2047);
        check.due("65536 of below zero", valueBehind(0, -65536), 2047);
        for (int size = 32768; size <= 65534; size += 1777) {
            int value = valueBehind(size, -size);
            check.due("with the value of " + size + " it is not", (long) size * value <= 32767L * 4096, true);
            check.due("with one more it is", (long) size * (value + 1) > 32767L * 4096, true);
        }
    }

    private static void theValueThatIsThere() {
        check.says("then, if the greater size m of both sums, times VALUE, divided by 4096,");
        int[] sizes = {65533, 65534, -65535};
        int[] values = {2048, 2048, 2047};
        for (int i = 0; i < sizes.length; i++) {
            Kernel x = two();
            sum(x, 65534, 0);
            sum(x, sizes[i], 0);
            sums(x, 40000, 40000, 22);
            Kernels.play(x);
            check.due("a size of " + sizes[i] + " behind 65534", x.value(), values[i]);
            check.due("one that is small enough for that value", x.played(0, 23, true), 40000 * values[i] / 4096);
        }
    }

    /** With 4095 the size 32776 gives 32767.998..: rounded down it would not be more than 32767, but it is. */
    private static void notRoundedBefore() {
        check.says("is more than 32767, VALUE becomes the greatest one with which it is not;");
        Kernel x = two();
        sum(x, 32768, 0);
        sum(x, 32775, 0);
        sum(x, -32768, 32776);
        sums(x, 0, 0, 21);
        Kernels.play(x);
        check.due("value", x.value(), 4094);
        check.due("32768 with 4095", x.played(0, 0, false), 32760);
        check.due("32775 with 4095", x.played(0, 1, false), 32766);
        check.due("32776 with 4094", x.played(0, 2, true), 32759);
        check.due("and with it the other sample", x.played(0, 2, false), -32752);
    }

    private static void theGreaterSize() {
        check.says("the greater size m of both sums,");
        check.due("left", valueBehind(50000, 40000), 2684);
        check.due("right", valueBehind(40000, 50000), 2684);
        check.due("left below zero", valueBehind(-50000, 40000), 2684);
        check.due("right below zero", valueBehind(40000, -50000), 2684);
        check.due("both below zero", valueBehind(-50000, -40000), 2684);
        check.due("one greater by 1", valueBehind(-32768, 32767), 4095);
        check.due("sums that outweigh one another are two sums", valueBehind(32767, -32767), 4096);
    }

    private static void sixClients() {
        check.says("these are summed.");
        int[] numbers = {-32768, 32767};
        int[] values = {682, 682};
        int[] samples = {-32736, 32735};
        for (int n = 0; n < numbers.length; n++) {
            Kernel x = new Kernel();
            for (int c = 0; c < 6; c++) {
                Kernels.player(x, 48000, 1, 16);
                Kernels.fill(x, c, numbers[n], 24);
            }
            Kernels.play(x);
            check.due("value of six times " + numbers[n], x.value(), values[n]);
            check.due("left", x.played(0, 0, false), samples[n]);
            check.due("right", x.played(0, 23, true), samples[n]);
        }
    }

    private static void raisedAtFrame32() {
        check.says("Of frame f of all that were ever made (from 0 on): if f is a multiple of 32, the VALUE is 16 more,");
        Kernel x = new Kernel();
        for (int c = 0; c < 2; c++) {
            Kernels.player(x, 48000, 1, 16);
            x.write(c, 32767);
            Kernels.fill(x, c, -8192, 119);
        }
        for (int f = 0; f < 120; f++) {
            if (f % 24 == 0) {
                Kernels.play(x);
                check.due("value behind frame " + (f + 23), x.value(), 2048 + 16 * ((f + 23) / 32));
            }
            int value = 2048 + 16 * (f / 32);
            boolean edge = f % 32 < 2 || f % 32 == 31;
            if (edge && f > 0) {
                check.due("left of frame " + f, x.played(0, f % 24, false), -4 * value);
                check.due("right of frame " + f, x.played(0, f % 24, true), -4 * value);
            }
        }
    }

    /** Frame 32 has 2064, with which 65534 is too large again: it is lowered before the sum is changed. */
    private static void raisedBeforeItIsUsed() {
        check.says("but 4096 at most; then, if the greater size m");
        Kernel x = two();
        sums(x, 65534, 0, 48);
        Kernels.play(x);
        Kernels.play(x);
        for (int i = 7; i <= 9; i++) {
            check.due("frame " + (24 + i), x.played(0, i, false), 32767);
        }
        check.due("value", x.value(), 2048);
        check.due("clipped", x.clipped(), 0);
        Kernel y = two();
        sum(y, 65534, 0);
        sums(y, 0, 0, 31);
        sum(y, 65024, 0);
        sums(y, 0, 0, 15);
        Kernels.play(y);
        Kernels.play(y);
        // 65024 with 2064 is 32766: it is used with what was raised, and lowers nothing.
        check.due("frame 32", y.played(0, 8, false), 32766);
        check.due("value behind it", y.value(), 2064);
    }

    private static void atMost4096() {
        check.says("the VALUE is 16 more, but 4096 at most;");
        int[] sizes = {32768, 32887, 32895, 32903, 32911};
        int[] values = {4095, 4081, 4080, 4079, 4078};
        int[] raised = {4096, 4096, 4096, 4095, 4094};
        for (int i = 0; i < sizes.length; i++) {
            Kernel x = two();
            sum(x, sizes[i], 0);
            sums(x, 0, 0, 23);
            x.prepare();
            check.due("value of " + sizes[i], x.value(), values[i]);
            x.prepare();
            check.due("raised from " + values[i], x.value(), raised[i]);
            x.prepare();
            check.due("raised twice", x.value(), 4096);
            x.prepare();
            check.due("and it stays", x.value(), 4096);
        }
        Kernel x = new Kernel();
        for (int period = 0; period < 8; period++) {
            Kernels.play(x);
            check.due("a value that was never lowered", x.value(), 4096);
        }
    }

    private static void lastsOverPeriods() {
        check.says("Of frame f of all that were ever made");
        Kernel x = two();
        sums(x, 0, 0, 23);
        sum(x, 65534, 0);
        sums(x, 1000, -1000, 24);
        Kernels.play(x);
        Kernels.play(x);
        check.due("left of the first frame behind", x.played(0, 0, false), 500);
        check.due("right of the first frame behind", x.played(0, 0, true), -500);
        x.card();
        check.due("a card without a READY one makes no frames", x.value(), 2064);
    }

    /** A fifth period is not made, so its frames do not count. */
    private static void framesNeverMade() {
        check.says("all that were ever made (from 0 on):");
        Kernel x = two();
        sum(x, 65534, 0);
        sums(x, 0, 0, 23);
        int[] due = {2048, 2064, 2080, 2080, 2080, 2080};
        for (int value : due) {
            x.prepare();
            check.due("value", x.value(), value);
        }
        Kernels.cards(x, 6);
        check.due("the card raises nothing", x.value(), 2080);
        x.prepare();
        check.due("frame 96 does", x.value(), 2096);
    }

    private static void limitedSumsRoundDown() {
        check.says("each sum is times VALUE, divided by 4096, rounded down.");
        Kernel x = two();
        sum(x, 65534, 0);
        int[][] due = {{1, 0}, {-1, -1}, {2, 1}, {-2, -1}, {3, 1}, {-3, -2}, {-65534, -32767},
            {65533, 32766}, {-65533, -32767}};
        for (int[] row : due) {
            sum(x, row[0], 0);
        }
        sums(x, 0, 0, 23 - due.length);
        Kernels.play(x);
        for (int i = 0; i < due.length; i++) {
            check.due("half of " + due[i][0], x.played(0, i + 1, false), due[i][1]);
        }
        check.due("value", x.value(), 2048);
    }

    private static void withoutItSumsStay() {
        check.says("Without it sums are not changed.");
        Kernel x = two();
        sum(x, 65534, 0);
        sums(x, 0, 0, 23);
        Kernels.play(x);
        x.limit(false);
        sums(x, 32767, -32768, 24);
        Kernels.play(x);
        check.due("left", x.played(0, 0, false), 32767);
        check.due("right", x.played(0, 23, true), -32768);
        check.due("clipped", x.clipped(), 0);
    }

    /** What is said of VALUE is said of the LIMITER when it is on: without it none is raised or lowered. */
    private static void withoutItTheValueStays() {
        check.says("(from 0 on): if f is a multiple of 32,");
        Kernel x = two();
        sum(x, 65534, 0);
        sums(x, 0, 0, 23);
        Kernels.play(x);
        x.limit(false);
        sums(x, -65536, 65534, 24);
        Kernels.play(x);
        check.due("not lowered, nor raised at frame 32", x.value(), 2048);
        Kernels.play(x);
        check.due("nor at frame 64", x.value(), 2048);
        x.limit(true);
        Kernels.play(x);
        check.due("frames 72 to 95 raise nothing", x.value(), 2048);
        Kernels.play(x);
        check.due("frame 96 does, as those without it were counted", x.value(), 2064);
    }

    private static void cutOrNot() {
        check.says("Then they are cut to -32768 .. 32767; each sample that is cut is CLIPPED.");
        int[][] due = {{32767, 32767, 0}, {32768, 32767, 1}, {-32768, -32768, 0}, {-32769, -32768, 1}, {65534, 32767, 1},
            {-65536, -32768, 1}, {0, 0, 0}};
        for (int[] row : due) {
            Kernel x = two();
            x.limit(false);
            sum(x, row[0], 0);
            sum(x, 0, row[0]);
            sum(x, row[0], row[0]);
            sum(x, row[0], 32768);
            sums(x, 0, 0, 20);
            Kernels.play(x);
            check.due("left of " + row[0], x.played(0, 0, false), row[1]);
            check.due("right of " + row[0], x.played(0, 1, true), row[1]);
            check.due("both of " + row[0], x.played(0, 2, false), row[1]);
            check.due("the other is cut by itself", x.played(0, 3, true), 32767);
            check.due("clipped of " + row[0], x.clipped(), 5 * row[2] + 1);
        }
    }

    private static void clippedWhenMade() {
        check.says("Samples that were CLIPPED.");
        Kernel x = two();
        check.due("at first", x.clipped(), 0);
        x.limit(false);
        sums(x, 40000, 0, 24);
        sums(x, 40000, -40000, 24);
        x.prepare();
        check.due("of one channel", x.clipped(), 24);
        x.prepare();
        check.due("of both channels more", x.clipped(), 72);
        Kernels.cards(x, 3);
        check.due("the card cuts nothing", x.clipped(), 72);
        x.close(0);
        x.close(1);
        x.limit(true);
        Kernels.play(x);
        check.due("they were CLIPPED all the same", x.clipped(), 72);
    }

    private static void neverClippedWithIt() {
        check.says("each sample that is cut is CLIPPED.");
        int[] sums = {65534, -65536, -65535, 32768, -32769, 49151, -49151, -40001};
        for (int sum : sums) {
            Kernel x = two();
            sums(x, sum, -32768, 48);
            Kernels.play(x);
            Kernels.play(x);
            check.due("clipped of " + sum, x.clipped(), 0);
        }
    }

    private static void limitAnswersWhatWas() {
        check.says("whether it was.");
        Kernel x = new Kernel();
        boolean was = true;
        for (boolean is : new boolean[] {true, true, false, false, true, false, true}) {
            check.due("limit", x.limit(is), was);
            was = is;
        }
    }

    private static void limitFromNowOn() {
        check.says("The LIMITER is on or off from now on:");
        Kernel x = two();
        for (int period = 0; period < 3; period++) {
            x.limit(period != 1);
            sums(x, 65534, 1000, 24);
            x.prepare();
        }
        x.limit(false);
        int[] rights = {500, 1000, 500};
        for (int right : rights) {
            x.card();
            check.due("a READY one stays as it was made, left", x.played(0, 0, false), 32767);
            check.due("a READY one stays as it was made, right", x.played(0, 0, true), right);
        }
        check.due("clipped", x.clipped(), 24);
        check.due("value", x.value(), 2048);
    }
}
