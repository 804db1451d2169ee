import java.util.Arrays;

/**
 * The stack between programs that play and hear sound and a card. Rows of a period hold 48 samples, the left one of
 * frame i at 2 i and the right one behind it. Counts of frames are long, so that none wraps however long an object lives.
 */
public final class SoundKernel {
    public static final int NONE = -1;

    private static final int CLIENTS = 6;
    private static final int CARD_RATE = 48000;
    private static final int[] RATES = {8000, 11025, 16000, 22050, 32000, 44100, 48000};
    private static final int FRAMES = 24;
    private static final int SAMPLES = 48;
    private static final int PERIODS = 4;
    private static final int MOST_FRAMES = 200;
    private static final int LOWEST = -32768;
    private static final int HIGHEST = 32767;

    private static final int OPENED = 0;
    private static final int RUNNING = 1;
    private static final int PAUSED = 2;
    private static final int DRAINING = 3;
    private static final int STOPPED = 4;

    private final Taps taps = new Taps();
    private final Limiter limiter = new Limiter();
    private final Client[] clients = new Client[CLIENTS];

    private final int[][] ready = new int[PERIODS][SAMPLES];
    private int oldestReady = 0;
    private int readyPeriods = 0;
    private final int[][] past = new int[PERIODS][SAMPLES];
    private int newestPast = 0;
    private final int[] incoming = new int[SAMPLES];

    private final int[] given = new int[SAMPLES];
    private final int[] sums = new int[SAMPLES];

    public SoundKernel() {
    }

    public int open(boolean plays, int rate, int channels, int bits) throws IllegalArgumentException, IllegalStateException {
        if (!isRate(rate) || (channels != 1 && channels != 2) || (bits != 8 && bits != 16)) {
            throw new IllegalArgumentException("no such rate, channels or bits");
        }
        int number = leastFree();
        if (number == NONE) {
            throw new IllegalStateException("there are six clients");
        }
        clients[number] = plays ? new Player(taps, rate, channels, bits) : new Listener(taps, rate, channels, bits);
        return number;
    }

    public void close(int client) throws IllegalArgumentException {
        requireClient(client);
        clients[client] = null;
    }

    public void gain(int client, double g) throws IllegalArgumentException {
        Player player = requirePlayer(client);
        // Written this way round so that what is not a number is refused too.
        if (!(g >= 0 && g <= 1)) {
            throw new IllegalArgumentException("a gain is 0 to 1");
        }
        player.loudness = (int) (g * Player.FULL);
    }

    public void start(int client) throws IllegalArgumentException, IllegalStateException {
        Client it = requireClient(client);
        if (it.condition != OPENED && it.condition != PAUSED) {
            throw new IllegalStateException("neither opened nor paused");
        }
        it.condition = RUNNING;
    }

    public void pause(int client) throws IllegalArgumentException, IllegalStateException {
        Client it = requireClient(client);
        requireRunning(it);
        it.condition = PAUSED;
    }

    public void drain(int client) throws IllegalArgumentException, IllegalStateException {
        Player player = requirePlayer(client);
        requireRunning(player);
        player.condition = DRAINING;
        player.half = false;
    }

    public int state(int client) throws IllegalArgumentException {
        return requireClient(client).condition;
    }

    public boolean write(int client, int v) throws IllegalArgumentException, IllegalStateException {
        Player player = requirePlayer(client);
        if (!player.isNumber(v)) {
            throw new IllegalArgumentException("no number of its bits");
        }
        if (player.isEnding()) {
            throw new IllegalStateException("draining or stopped");
        }
        return player.accept(v);
    }

    public int read(int client) throws IllegalArgumentException, IllegalStateException {
        Listener listener = requireListener(client);
        if (listener.numbersNow() < 1) {
            throw new IllegalStateException("none is ready");
        }
        return listener.nextNumber();
    }

    public int room(int client) throws IllegalArgumentException {
        return requireClient(client).numbersNow();
    }

    public int ahead(int client) throws IllegalArgumentException {
        return requirePlayer(client).periodsWritten();
    }

    public boolean prepare() {
        if (readyPeriods >= PERIODS) {
            return false;
        }
        int slot = slotOf(oldestReady + readyPeriods);
        Arrays.fill(sums, 0);
        for (int c = 0; c < CLIENTS; c++) {
            if (clients[c] instanceof Player player) {
                player.give(given, slot);
                player.addLoud(given, sums);
            }
        }
        limiter.make(sums, ready[slot]);
        readyPeriods++;
        return true;
    }

    public boolean card() {
        boolean wasReady = readyPeriods > 0;
        newestPast = slotOf(newestPast + 1);
        if (wasReady) {
            playOldest();
        } else {
            Arrays.fill(past[newestPast], 0);
        }
        captureIncoming();
        return wasReady;
    }

    public void coming(int i, boolean right, int v) throws IllegalArgumentException {
        if (!isFrame(i) || !isSample(v)) {
            throw new IllegalArgumentException("no such frame or sample");
        }
        incoming[sampleIndex(i, right)] = v;
    }

    public int played(int period, int i, boolean right) throws IllegalArgumentException {
        if (period < 0 || period >= PERIODS || !isFrame(i)) {
            throw new IllegalArgumentException("no such period or frame");
        }
        return past[slotOf(newestPast - period)][sampleIndex(i, right)];
    }

    public int position(int client) throws IllegalArgumentException {
        return (int) requireClient(client).place();
    }

    public int late(int client) throws IllegalArgumentException {
        return requireClient(client).timesLate;
    }

    public double level(int client) throws IllegalArgumentException {
        return (double) requirePlayer(client).squares / SAMPLES;
    }

    public int clipped() {
        return limiter.cuts;
    }

    public boolean limit(boolean is) {
        boolean was = limiter.on;
        limiter.on = is;
        return was;
    }

    public int value() {
        return limiter.factor;
    }

    public int tap(int phase, int k) throws IllegalArgumentException {
        if (phase < 0 || phase >= Taps.PHASES || k < 0 || k >= Taps.WIDTH) {
            throw new IllegalArgumentException("no such tap");
        }
        return taps.of(phase, k);
    }

    private Client requireClient(int number) {
        if (number < 0 || number >= CLIENTS || clients[number] == null) {
            throw new IllegalArgumentException("no such client");
        }
        return clients[number];
    }

    private Player requirePlayer(int number) {
        if (requireClient(number) instanceof Player player) {
            return player;
        }
        throw new IllegalArgumentException("the client listens");
    }

    private Listener requireListener(int number) {
        if (requireClient(number) instanceof Listener listener) {
            return listener;
        }
        throw new IllegalArgumentException("the client plays");
    }

    private static void requireRunning(Client client) {
        if (client.condition != RUNNING) {
            throw new IllegalStateException("not running");
        }
    }

    private int leastFree() {
        for (int c = 0; c < CLIENTS; c++) {
            if (clients[c] == null) {
                return c;
            }
        }
        return NONE;
    }

    private void playOldest() {
        System.arraycopy(ready[oldestReady], 0, past[newestPast], 0, SAMPLES);
        for (int c = 0; c < CLIENTS; c++) {
            if (clients[c] instanceof Player player) {
                player.markHeard(oldestReady);
            }
        }
        oldestReady = slotOf(oldestReady + 1);
        readyPeriods--;
    }

    private void captureIncoming() {
        for (int c = 0; c < CLIENTS; c++) {
            if (clients[c] instanceof Listener listener && listener.condition == RUNNING) {
                listener.capture(incoming);
            }
        }
        Arrays.fill(incoming, 0);
    }

    private static boolean isRate(int rate) {
        for (int known : RATES) {
            if (known == rate) {
                return true;
            }
        }
        return false;
    }

    private static boolean isFrame(int i) {
        return i >= 0 && i < FRAMES;
    }

    private static boolean isSample(int v) {
        return v >= LOWEST && v <= HIGHEST;
    }

    private static int sampleIndex(int frame, boolean right) {
        return 2 * frame + (right ? 1 : 0);
    }

    private static int slotOf(int i) {
        return Math.floorMod(i, PERIODS);
    }

    /** The taps of all phases, worked out once for all clients. */
    private static final class Taps {
        static final int PHASES = 32;
        static final int WIDTH = 16;
        static final int CENTRE = 7;
        static final int WHOLE = 16384;
        private static final int REACH = 256;

        private final int[] row = new int[PHASES * WIDTH];

        Taps() {
            for (int phase = 0; phase < PHASES; phase++) {
                int sum = weightsOf(phase);
                int lacking = WHOLE;
                for (int k = 0; k < WIDTH; k++) {
                    int share = sum > 0 ? WHOLE * weight(phase, k) / sum : 0;
                    row[phase * WIDTH + k] = share;
                    lacking -= share;
                }
                row[phase * WIDTH + (phase > PHASES / 2 ? CENTRE + 1 : CENTRE)] += lacking;
            }
        }

        int of(int phase, int k) {
            return row[phase * WIDTH + k];
        }

        private static int weightsOf(int phase) {
            int sum = 0;
            for (int k = 0; k < WIDTH; k++) {
                sum += weight(phase, k);
            }
            return sum;
        }

        private static int weight(int phase, int k) {
            int distance = Math.abs(PHASES * (k - CENTRE) - phase);
            return distance > REACH ? 0 : (REACH - distance) * (REACH - distance);
        }
    }

    /**
     * The frames of one stream, numbered from 0 on. Only the last 256 are held: a player's outputs reach back 7 frames
     * from its place, behind which at most 200 are written; a listener holds at most 200 that were not read.
     */
    private static final class Frames {
        private static final int HELD = 256;

        private final int[] lefts = new int[HELD];
        private final int[] rights = new int[HELD];
        private long count = 0;

        void add(int left, int right) {
            int at = (int) (count & (HELD - 1));
            lefts[at] = left;
            rights[at] = right;
            count++;
        }

        int sample(long i, boolean right) {
            if (i < 0 || i >= count) {
                return 0;
            }
            int at = (int) (i & (HELD - 1));
            return right ? rights[at] : lefts[at];
        }
    }

    /** Brings frames x of one rate to frames y of another. */
    private static final class Converter {
        private final Taps taps;
        private final long from;
        private final long to;

        Converter(Taps taps, int from, int to) {
            this.taps = taps;
            this.from = from;
            // It divides below; open lets no rate through that is not positive.
            this.to = Math.max(1, to);
        }

        boolean isPlain() {
            return from == to;
        }

        long wholePlace(long n) {
            return n * from / to;
        }

        long lastNeeded(long n) {
            return isPlain() ? n : wholePlace(n) + Taps.WIDTH - 1 - Taps.CENTRE;
        }

        int sample(Frames x, long n, boolean right) {
            if (isPlain()) {
                return x.sample(n, right);
            }
            int phase = (int) (n * from % to * Taps.PHASES / to);
            long first = wholePlace(n) - Taps.CENTRE;
            long sum = 0;
            for (int k = 0; k < Taps.WIDTH; k++) {
                sum += (long) taps.of(phase, k) * x.sample(first + k, right);
            }
            return (int) Math.floorDiv(sum, (long) Taps.WHOLE);
        }
    }

    /** What clients that play and clients that listen have in common. */
    private abstract static class Client {
        final int channels;
        final int bits;
        int condition = OPENED;
        int timesLate = 0;
        /** Whether the left number of a frame has passed, and its right one has not. */
        boolean half = false;

        Client(int channels, int bits) {
            this.channels = channels;
            this.bits = bits;
        }

        abstract int numbersNow();

        abstract long place();

        int numbersOf(long frames) {
            return (int) frames * channels - (half ? 1 : 0);
        }

        boolean isNumber(int v) {
            return bits == 8 ? v >= 0 && v <= 255 : isSample(v);
        }

        int sampleOf(int number) {
            return bits == 8 ? (number - 128) * 256 : number;
        }

        int numberOf(int sample) {
            return bits == 8 ? Math.floorDiv(sample, 256) + 128 : sample;
        }
    }

    private static final class Player extends Client {
        static final int FULL = 256;
        private static final int FADE = 15;

        private final Converter outputs;
        private final Frames written = new Frames();
        /** How many outputs it gave to each READY period, so that they count when the card plays it. */
        private final int[] outputsIn = new int[PERIODS];
        private int loudness = FULL;
        private int heldLeft = 0;
        private int lastLeft = 0;
        private int lastRight = 0;
        private long next = 0;
        private long heard = 0;
        private long squares = 0;

        Player(Taps taps, int rate, int channels, int bits) {
            super(channels, bits);
            outputs = new Converter(taps, rate, CARD_RATE);
        }

        boolean isEnding() {
            return condition == DRAINING || condition == STOPPED;
        }

        int numbersNow() {
            return isEnding() ? 0 : numbersOf(freeFrames());
        }

        long place() {
            return outputs.wholePlace(heard);
        }

        boolean accept(int number) {
            if (freeFrames() < 1) {
                return false;
            }
            int sample = sampleOf(number);
            if (channels == 1) {
                written.add(sample, sample);
            } else if (half) {
                written.add(heldLeft, sample);
                half = false;
            } else {
                heldLeft = sample;
                half = true;
            }
            return true;
        }

        int periodsWritten() {
            int periods = 0;
            // Every period needs later frames than the one before it, so there are never more of them than frames.
            while (periods < MOST_FRAMES && isWrittenFor(periods + 1)) {
                periods++;
            }
            return periods;
        }

        void give(int[] row, int slot) {
            boolean givesOutputs = condition == DRAINING || (condition == RUNNING && isWrittenFor(1));
            if (givesOutputs) {
                giveOutputs(row);
            } else if (condition == RUNNING) {
                giveFade(row);
            } else {
                Arrays.fill(row, 0);
            }
            outputsIn[slot] = givesOutputs ? FRAMES : 0;
            if (condition == DRAINING && isPastAllWritten()) {
                condition = STOPPED;
            }
            squares = sumOfSquares(row);
        }

        void addLoud(int[] row, int[] sums) {
            for (int i = 0; i < SAMPLES; i++) {
                sums[i] += Math.floorDiv(row[i] * loudness, FULL);
            }
        }

        void markHeard(int slot) {
            heard += outputsIn[slot];
        }

        private long freeFrames() {
            return MOST_FRAMES - (written.count - outputs.wholePlace(next));
        }

        private boolean isWrittenFor(int periods) {
            return outputs.lastNeeded(next + (long) FRAMES * periods - 1) < written.count;
        }

        private boolean isPastAllWritten() {
            long reach = outputs.isPlain() ? 0 : Taps.CENTRE;
            return outputs.wholePlace(next) - reach >= written.count;
        }

        private void giveOutputs(int[] row) {
            for (int j = 0; j < FRAMES; j++) {
                lastLeft = outputs.sample(written, next, false);
                lastRight = outputs.sample(written, next, true);
                row[2 * j] = lastLeft;
                row[2 * j + 1] = lastRight;
                next++;
            }
        }

        private void giveFade(int[] row) {
            for (int j = 0; j < FRAMES; j++) {
                int part = Math.max(0, FADE - j);
                row[2 * j] = Math.floorDiv(lastLeft * part, FADE + 1);
                row[2 * j + 1] = Math.floorDiv(lastRight * part, FADE + 1);
            }
            lastLeft = 0;
            lastRight = 0;
            timesLate++;
        }

        private static long sumOfSquares(int[] row) {
            long sum = 0;
            for (int i = 0; i < SAMPLES; i++) {
                sum += (long) row[i] * row[i];
            }
            return sum;
        }
    }

    private static final class Listener extends Client {
        private final Converter converter;
        private final Frames captured = new Frames();
        private final Frames unlocked = new Frames();
        private long next = 0;
        private long wholly = 0;

        Listener(Taps taps, int rate, int channels, int bits) {
            super(channels, bits);
            converter = new Converter(taps, CARD_RATE, rate);
        }

        int numbersNow() {
            return numbersOf(unlocked.count - wholly);
        }

        long place() {
            return wholly;
        }

        void capture(int[] row) {
            for (int j = 0; j < FRAMES; j++) {
                captured.add(row[2 * j], row[2 * j + 1]);
            }
            int fresh = freshFrames();
            if (unlocked.count - wholly + fresh > MOST_FRAMES) {
                timesLate++;
            } else {
                unlock(fresh);
            }
            next += fresh;
        }

        int nextNumber() {
            int left = unlocked.sample(wholly, false);
            int right = unlocked.sample(wholly, true);
            if (channels == 1) {
                wholly++;
                return numberOf(Math.floorDiv(left + right, 2));
            }
            if (half) {
                half = false;
                wholly++;
                return numberOf(right);
            }
            half = true;
            return numberOf(left);
        }

        private int freshFrames() {
            int fresh = 0;
            // No rate is above the card's, so a period never brings more frames than it has itself.
            while (fresh < FRAMES && converter.lastNeeded(next + fresh) < captured.count) {
                fresh++;
            }
            return fresh;
        }

        private void unlock(int fresh) {
            for (int j = 0; j < fresh; j++) {
                unlocked.add(converter.sample(captured, next + j, false), converter.sample(captured, next + j, true));
            }
        }
    }

    /** Brings the sums of all clients into the range of samples. */
    private static final class Limiter {
        private static final int FULL = 4096;
        private static final int STEP = 16;
        private static final int STEP_FRAMES = 32;

        private boolean on = true;
        private int factor = FULL;
        private int cuts = 0;
        private long frames = 0;

        void make(int[] sums, int[] row) {
            for (int j = 0; j < FRAMES; j++) {
                if (on) {
                    recover();
                    yieldTo(Math.max(Math.abs(sums[2 * j]), Math.abs(sums[2 * j + 1])));
                }
                row[2 * j] = cut(limited(sums[2 * j]));
                row[2 * j + 1] = cut(limited(sums[2 * j + 1]));
                frames++;
            }
        }

        private void recover() {
            if (frames % STEP_FRAMES == 0) {
                factor = Math.min(FULL, factor + STEP);
            }
        }

        private void yieldTo(int size) {
            long most = (long) HIGHEST * FULL;
            if (size > 0 && (long) size * factor > most) {
                factor = (int) (most / size);
            }
        }

        private int limited(int sum) {
            return on ? (int) Math.floorDiv((long) sum * factor, (long) FULL) : sum;
        }

        private int cut(int sum) {
            if (isSample(sum)) {
                return sum;
            }
            cuts++;
            return sum < 0 ? LOWEST : HIGHEST;
        }
    }
}
