/** Short ways to bring a Kernel to where a test begins. */
final class Kernels {
    private Kernels() {
    }

    /** A client that plays and is RUNNING. */
    static int player(Kernel x, int rate, int channels, int bits) {
        int client = x.open(true, rate, channels, bits);
        x.start(client);
        return client;
    }

    /** A client that listens and is RUNNING. */
    static int listener(Kernel x, int rate, int channels, int bits) {
        int client = x.open(false, rate, channels, bits);
        x.start(client);
        return client;
    }

    /** Writes the same number again and again: how many of them there was room for. */
    static int fill(Kernel x, int client, int number, int times) {
        int taken = 0;
        for (int i = 0; i < times; i++) {
            taken += x.write(client, number) ? 1 : 0;
        }
        return taken;
    }

    static void cards(Kernel x, int times) {
        for (int i = 0; i < times; i++) {
            x.card();
        }
    }

    /** A period is made ready and played at once. */
    static void play(Kernel x) {
        x.prepare();
        x.card();
    }

    /** Writes frames to a client of two channels, each frame {left, right}. */
    static void frames(Kernel x, int client, int[]... frames) {
        for (int[] frame : frames) {
            x.write(client, frame[0]);
            x.write(client, frame[1]);
        }
    }

    /** Writes numbers one after the other. */
    static void numbers(Kernel x, int client, int... numbers) {
        for (int v : numbers) {
            x.write(client, v);
        }
    }

    /** A client that plays, in one of the five states; it has no frames left if it is STOPPED. */
    static int playerIn(Kernel x, int state, int rate, int channels, int bits) {
        int client = x.open(true, rate, channels, bits);
        bring(x, client, state);
        if (state >= 3) {
            x.drain(client);
        }
        for (int period = 0; state == 4 && period < 2; period++) {
            play(x);
        }
        return client;
    }

    /** A client that listens, in one of its three states. */
    static int listenerIn(Kernel x, int state, int rate, int channels, int bits) {
        int client = x.open(false, rate, channels, bits);
        bring(x, client, state);
        return client;
    }

    private static void bring(Kernel x, int client, int state) {
        if (state > 0) {
            x.start(client);
        }
        if (state == 2) {
            x.pause(client);
        }
    }
}
