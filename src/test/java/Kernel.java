/** A SoundKernel that counts its calls: the document says nothing of an object behind its 512th, so no test may ask it. */
final class Kernel {
    static final int MOST_CALLS = 512;

    private final SoundKernel kernel = new SoundKernel();
    private int calls = 0;

    private SoundKernel counted() {
        calls++;
        if (calls > MOST_CALLS) {
            throw new AssertionError("a test makes more than 512 calls on one object");
        }
        return kernel;
    }

    int calls() {
        return calls;
    }

    int open(boolean plays, int rate, int channels, int bits) {
        return counted().open(plays, rate, channels, bits);
    }

    void close(int client) {
        counted().close(client);
    }

    void gain(int client, double g) {
        counted().gain(client, g);
    }

    void start(int client) {
        counted().start(client);
    }

    void pause(int client) {
        counted().pause(client);
    }

    void drain(int client) {
        counted().drain(client);
    }

    int state(int client) {
        return counted().state(client);
    }

    boolean write(int client, int v) {
        return counted().write(client, v);
    }

    int read(int client) {
        return counted().read(client);
    }

    int room(int client) {
        return counted().room(client);
    }

    int ahead(int client) {
        return counted().ahead(client);
    }

    boolean prepare() {
        return counted().prepare();
    }

    boolean card() {
        return counted().card();
    }

    void coming(int i, boolean right, int v) {
        counted().coming(i, right, v);
    }

    int played(int period, int i, boolean right) {
        return counted().played(period, i, right);
    }

    int position(int client) {
        return counted().position(client);
    }

    int late(int client) {
        return counted().late(client);
    }

    double level(int client) {
        return counted().level(client);
    }

    int clipped() {
        return counted().clipped();
    }

    boolean limit(boolean is) {
        return counted().limit(is);
    }

    int value() {
        return counted().value();
    }

    int tap(int phase, int k) {
        return counted().tap(phase, k);
    }
}
