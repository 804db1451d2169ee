/** The document's words on frames between rates, for tests that work out what is due. */
final class Rates {
    static final int[] ALL = {8000, 11025, 16000, 22050, 32000, 44100, 48000};

    private Rates() {
    }

    static int place(long n, int from, int to) {
        return (int) (n * from / to);
    }

    static int phase(long n, int from, int to) {
        return (int) (n * from % to * 32 / to);
    }

    /** How many frames must be there for y(n). */
    static int framesFor(long n, int from, int to) {
        return place(n, from, to) + (from == to ? 1 : 9);
    }

    static int weight(int phase, int k) {
        int d = Math.abs(32 * (k - 7) - phase);
        return d > 256 ? 0 : (256 - d) * (256 - d);
    }

    /** A tap before what they all lack is added to one of them. */
    static int share(int phase, int k) {
        int sum = 0;
        for (int other = 0; other < 16; other++) {
            sum += weight(phase, other);
        }
        return 16384 * weight(phase, k) / sum;
    }

    static int tap(int phase, int k) {
        int tap = share(phase, k);
        if (k == (phase > 16 ? 8 : 7)) {
            tap += 16384;
            for (int other = 0; other < 16; other++) {
                tap -= share(phase, other);
            }
        }
        return tap;
    }

    /** y(n) of frames whose samples are x, those before and behind them being 0. */
    static int sample(int[] x, long n, int from, int to) {
        int i = place(n, from, to);
        if (from == to) {
            return at(x, i);
        }
        long sum = 0;
        for (int k = 0; k < 16; k++) {
            sum += (long) tap(phase(n, from, to), k) * at(x, i + k - 7);
        }
        return (int) Math.floorDiv(sum, 16384L);
    }

    private static int at(int[] x, int i) {
        return i < 0 || i >= x.length ? 0 : x[i];
    }
}
