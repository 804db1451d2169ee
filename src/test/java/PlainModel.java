import java.math.BigInteger;
import java.util.ArrayList;
import java.util.List;

/**
 * The document once more, as plainly as it can be written: every frame, output and period that ever was is kept, and
 * every answer is worked out from them anew. Tests compare the class with it.
 */
public final class PlainModel {
    private static final List<Integer> RATES = List.of(8000, 11025, 16000, 22050, 32000, 44100, 48000);

    /** All samples of one made period, and which client gave it outputs. */
    private static final class Period {
        final int[][] samples = new int[24][2];
        final List<Client> givers = new ArrayList<>();
    }

    private static final class Client {
        boolean plays;
        int rate;
        int channels;
        int bits;
        int state = 0;
        int late = 0;
        int gain = 256;
        final List<Integer> numbers = new ArrayList<>();
        final List<int[]> frames = new ArrayList<>();
        final List<int[]> lastGiven = new ArrayList<>();
        int[] last = {0, 0};
        int outputs = 0;
        final List<int[]> ready = new ArrayList<>();
        int unlocked = 0;
        int numbersRead = 0;
    }

    private final Client[] clients = new Client[6];
    private final List<Period> made = new ArrayList<>();
    private final List<Period> playedOnes = new ArrayList<>();
    private int playedOfMade = 0;
    private int[][] next = new int[24][2];
    private boolean limiter = true;
    private int value = 4096;
    private int clipped = 0;

    private static void argument(boolean right) {
        if (!right) {
            throw new IllegalArgumentException();
        }
    }

    private static void state(boolean right) {
        if (!right) {
            throw new IllegalStateException();
        }
    }

    private Client any(int client) {
        argument(client >= 0 && client <= 5 && clients[client] != null);
        return clients[client];
    }

    private Client of(int client, boolean plays) {
        Client c = any(client);
        argument(c.plays == plays);
        return c;
    }

    public int open(boolean plays, int rate, int channels, int bits) {
        argument(RATES.contains(rate) && (channels == 1 || channels == 2) && (bits == 8 || bits == 16));
        int number = 0;
        while (number < 6 && clients[number] != null) {
            number++;
        }
        state(number < 6);
        Client c = new Client();
        c.plays = plays;
        c.rate = rate;
        c.channels = channels;
        c.bits = bits;
        clients[number] = c;
        return number;
    }

    public void close(int client) {
        any(client);
        clients[client] = null;
    }

    public void gain(int client, double g) {
        Client c = of(client, true);
        argument(g >= 0 && g <= 1);
        c.gain = (int) Math.floor(g * 256);
    }

    public void start(int client) {
        Client c = any(client);
        state(c.state == 0 || c.state == 2);
        c.state = 1;
    }

    public void pause(int client) {
        Client c = any(client);
        state(c.state == 1);
        c.state = 2;
    }

    public void drain(int client) {
        Client c = of(client, true);
        state(c.state == 1);
        c.state = 3;
        c.numbers.clear();
    }

    public int state(int client) {
        return any(client).state;
    }

    public boolean write(int client, int v) {
        Client c = of(client, true);
        argument(c.bits == 8 ? v >= 0 && v <= 255 : v >= -32768 && v <= 32767);
        state(c.state < 3);
        if (framesFree(c) <= 0) {
            return false;
        }
        c.numbers.add(c.bits == 8 ? (v - 128) * 256 : v);
        if (c.numbers.size() == c.channels) {
            c.frames.add(new int[] {c.numbers.get(0), c.numbers.get(c.channels - 1)});
            c.numbers.clear();
        }
        return true;
    }

    private static int framesFree(Client c) {
        int behind = 0;
        for (int i = 0; i < c.frames.size(); i++) {
            behind += i >= place(c.outputs, c.rate, 48000) ? 1 : 0;
        }
        return 200 - behind;
    }

    public int read(int client) {
        Client c = of(client, false);
        state(room(client) > 0);
        int[] frame = c.ready.get(c.numbersRead / c.channels);
        int sample = c.channels == 2 ? frame[c.numbersRead % 2] : Math.floorDiv(frame[0] + frame[1], 2);
        c.numbersRead++;
        return c.bits == 8 ? Math.floorDiv(sample, 256) + 128 : sample;
    }

    public int room(int client) {
        Client c = any(client);
        if (!c.plays) {
            return c.ready.size() * c.channels - c.numbersRead;
        }
        return c.state >= 3 ? 0 : framesFree(c) * c.channels - c.numbers.size();
    }

    public int ahead(int client) {
        Client c = of(client, true);
        int periods = 0;
        while (written(c, c.outputs + 24 * periods)) {
            periods++;
        }
        return periods;
    }

    /** Whether all frames are there that 24 outputs need. */
    private static boolean written(Client c, int first) {
        for (int n = first; n < first + 24; n++) {
            if (needs(n, c.rate, 48000) >= c.frames.size()) {
                return false;
            }
        }
        return true;
    }

    private static int place(int n, int a, int b) {
        return BigInteger.valueOf(n).multiply(BigInteger.valueOf(a)).divide(BigInteger.valueOf(b)).intValueExact();
    }

    private static int needs(int n, int a, int b) {
        return a == b ? n : place(n, a, b) + 8;
    }

    private int[] between(List<int[]> x, int n, int a, int b) {
        int i = place(n, a, b);
        if (a == b) {
            return new int[] {at(x, i, 0), at(x, i, 1)};
        }
        int p = place(32 * n, a, b) - 32 * i;
        int[] y = new int[2];
        for (int side = 0; side < 2; side++) {
            BigInteger sum = BigInteger.ZERO;
            for (int k = 0; k < 16; k++) {
                sum = sum.add(BigInteger.valueOf(tap(p, k)).multiply(BigInteger.valueOf(at(x, i + k - 7, side))));
            }
            y[side] = sum.shiftRight(14).intValueExact();
        }
        return y;
    }

    private static int at(List<int[]> x, int i, int side) {
        return i < 0 || i >= x.size() ? 0 : x.get(i)[side];
    }

    public boolean prepare() {
        if (made.size() - playedOfMade == 4) {
            return false;
        }
        Period period = new Period();
        for (Client c : clients) {
            if (c != null && c.plays) {
                giveTo(c, period);
            }
        }
        for (int j = 0; j < 24; j++) {
            finish(period.samples[j], made.size() * 24 + j);
        }
        made.add(period);
        return true;
    }

    private void giveTo(Client c, Period period) {
        boolean outputs = c.state == 3 || c.state == 1 && written(c, c.outputs);
        boolean late = c.state == 1 && !outputs;
        c.lastGiven.clear();
        for (int j = 0; j < 24; j++) {
            int[] frame = {0, 0};
            if (outputs) {
                frame = between(c.frames, c.outputs, c.rate, 48000);
                c.last = frame;
                c.outputs++;
            } else if (late && j < 15) {
                frame = new int[] {Math.floorDiv(c.last[0] * (15 - j), 16), Math.floorDiv(c.last[1] * (15 - j), 16)};
            }
            c.lastGiven.add(frame);
            period.samples[j][0] += Math.floorDiv(frame[0] * c.gain, 256);
            period.samples[j][1] += Math.floorDiv(frame[1] * c.gain, 256);
        }
        if (outputs) {
            period.givers.add(c);
        }
        if (late) {
            c.late++;
            c.last = new int[] {0, 0};
        }
        int reach = c.rate == 48000 ? 0 : 7;
        if (c.state == 3 && place(c.outputs, c.rate, 48000) - reach >= c.frames.size()) {
            c.state = 4;
        }
    }

    private void finish(int[] frame, int f) {
        if (limiter) {
            if (f % 32 == 0) {
                value = Math.min(4096, value + 16);
            }
            long m = Math.max(Math.abs(frame[0]), Math.abs(frame[1]));
            while (m * value > 32767L * 4096) {
                value--;
            }
        }
        for (int side = 0; side < 2; side++) {
            int sample = limiter ? (int) Math.floorDiv((long) frame[side] * value, 4096L) : frame[side];
            frame[side] = Math.max(-32768, Math.min(32767, sample));
            clipped += frame[side] != sample ? 1 : 0;
        }
    }

    public boolean card() {
        boolean ready = playedOfMade < made.size();
        playedOnes.add(ready ? made.get(playedOfMade++) : new Period());
        for (Client c : clients) {
            if (c != null && !c.plays && c.state == 1) {
                capture(c);
            }
        }
        next = new int[24][2];
        return ready;
    }

    private void capture(Client c) {
        for (int[] frame : next) {
            c.frames.add(frame);
        }
        List<int[]> fresh = new ArrayList<>();
        while (needs(c.unlocked, 48000, c.rate) < c.frames.size()) {
            fresh.add(between(c.frames, c.unlocked, 48000, c.rate));
            c.unlocked++;
        }
        if (c.ready.size() - c.numbersRead / c.channels + fresh.size() > 200) {
            c.late++;
        } else {
            c.ready.addAll(fresh);
        }
    }

    public void coming(int i, boolean right, int v) {
        argument(i >= 0 && i <= 23 && v >= -32768 && v <= 32767);
        next[i][right ? 1 : 0] = v;
    }

    public int played(int period, int i, boolean right) {
        argument(period >= 0 && period <= 3 && i >= 0 && i <= 23);
        int index = playedOnes.size() - 1 - period;
        return index < 0 ? 0 : playedOnes.get(index).samples[i][right ? 1 : 0];
    }

    public int position(int client) {
        Client c = any(client);
        if (!c.plays) {
            return c.numbersRead / c.channels;
        }
        int outputs = 0;
        for (Period period : playedOnes) {
            outputs += period.givers.contains(c) ? 24 : 0;
        }
        return place(outputs, c.rate, 48000);
    }

    public int late(int client) {
        return any(client).late;
    }

    public double level(int client) {
        long sum = 0;
        for (int[] frame : of(client, true).lastGiven) {
            sum += (long) frame[0] * frame[0] + (long) frame[1] * frame[1];
        }
        return sum / 48.0;
    }

    public int clipped() {
        return clipped;
    }

    public boolean limit(boolean is) {
        boolean was = limiter;
        limiter = is;
        return was;
    }

    public int value() {
        return value;
    }

    public int tap(int phase, int k) {
        argument(phase >= 0 && phase <= 31 && k >= 0 && k <= 15);
        int sum = 0;
        for (int other = 0; other < 16; other++) {
            sum += weight(phase, other);
        }
        int tap = (int) (16384L * weight(phase, k) / sum);
        if (k == (phase > 16 ? 8 : 7)) {
            tap += 16384;
            for (int other = 0; other < 16; other++) {
                tap -= (int) (16384L * weight(phase, other) / sum);
            }
        }
        return tap;
    }

    private static int weight(int phase, int k) {
        int d = Math.abs(32 * (k - 7) - phase);
        return d > 256 ? 0 : (256 - d) * (256 - d);
    }
}
