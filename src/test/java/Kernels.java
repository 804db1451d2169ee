/** Short ways to bring a SoundKernel to where a test begins. */
final class Kernels {
    private Kernels() {
    }

    /** A client that plays and is RUNNING. */
    static int player(SoundKernel x, int rate, int channels, int bits) {
        int client = x.open(true, rate, channels, bits);
        x.start(client);
        return client;
    }

    /** A client that listens and is RUNNING. */
    static int listener(SoundKernel x, int rate, int channels, int bits) {
        int client = x.open(false, rate, channels, bits);
        x.start(client);
        return client;
    }

    /** Writes the same number again and again: how many of them there was room for. */
    static int fill(SoundKernel x, int client, int number, int times) {
        int taken = 0;
        for (int i = 0; i < times; i++) {
            taken += x.write(client, number) ? 1 : 0;
        }
        return taken;
    }

    static void cards(SoundKernel x, int times) {
        for (int i = 0; i < times; i++) {
            x.card();
        }
    }

    /** A period is made ready and played at once. */
    static void play(SoundKernel x) {
        x.prepare();
        x.card();
    }
}
