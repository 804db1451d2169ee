/** Promises 10, 11, 14, 15, 17 and 18 for clients that listen: read, room, card, coming, position, late. */
public final class ListeningTest {
    private static final Check check = new Check();

    private ListeningTest() {
    }

    public static void main(String[] args) {
        readOfTwoChannels();
        readOfOneChannel();
        readOfEightBits();
        readRefuses();
        comingIsTakenOnce();
        comingRefuses();
        onlyWhileRunning();
        tooMany();
        tooManyCountsHalfFrames();
        readyBetweenRates();
        check.end();
    }

    private static void readOfTwoChannels() {
        Kernel x = new Kernel();
        Kernels.listener(x, 48000, 2, 16);
        x.coming(0, false, 32767);
        x.coming(0, true, -32768);
        x.coming(23, true, 5);
        check.dueThrow("nothing is captured", Check.STATE, () -> x.read(0));
        x.card();
        check.due("room", x.room(0), 48);
        check.due("left", x.read(0), 32767);
        check.due("room behind a left number", x.room(0), 47);
        check.due("position in a frame", x.position(0), 0);
        check.due("right", x.read(0), -32768);
        check.due("room behind a frame", x.room(0), 46);
        check.due("position behind a frame", x.position(0), 1);
        for (int i = 0; i < 45; i++) {
            check.due("zeros", x.read(0), 0);
        }
        check.due("the last right one", x.read(0), 5);
        check.due("position", x.position(0), 24);
        check.due("room at the end", x.room(0), 0);
        check.dueThrow("none is left", Check.STATE, () -> x.read(0));
        check.due("position is as it was", x.position(0), 24);
    }

    private static void readOfOneChannel() {
        Kernel x = new Kernel();
        Kernels.listener(x, 48000, 1, 16);
        int[][] frames = {{3, 4}, {-3, -4}, {32767, 32767}, {-32768, -32768}, {32767, -32768}};
        int[] due = {3, -4, 32767, -32768, -1};
        for (int i = 0; i < frames.length; i++) {
            x.coming(i, false, frames[i][0]);
            x.coming(i, true, frames[i][1]);
        }
        x.card();
        check.due("room", x.room(0), 24);
        for (int number : due) {
            check.due("the half of both", x.read(0), number);
        }
        check.due("position", x.position(0), 5);
    }

    private static void readOfEightBits() {
        Kernel x = new Kernel();
        Kernels.listener(x, 48000, 2, 8);
        Kernels.listener(x, 48000, 1, 8);
        int[] samples = {-32768, -1, 0, 255, 256, 32767, -256, -257};
        int[] due = {0, 127, 128, 128, 129, 255, 127, 126};
        for (int i = 0; i < samples.length; i++) {
            x.coming(i, false, samples[i]);
            x.coming(i, true, samples[i]);
        }
        x.coming(8, false, 255);
        x.coming(8, true, 256);
        x.card();
        for (int number : due) {
            check.due("8 bits, left", x.read(0), number);
            check.due("8 bits, right", x.read(0), number);
            check.due("8 bits, one channel", x.read(1), number);
        }
        check.due("halved before it is brought to 8 bits", x.read(1), 128);
    }

    private static void readRefuses() {
        Kernel x = new Kernel();
        Kernels.player(x, 48000, 1, 16);
        check.dueThrow("read of one that plays", Check.ARGUMENT, () -> x.read(0));
        x.open(false, 48000, 1, 16);
        x.card();
        check.dueThrow("read of an opened one", Check.STATE, () -> x.read(1));
    }

    private static void comingIsTakenOnce() {
        Kernel x = new Kernel();
        Kernels.listener(x, 48000, 1, 16);
        x.coming(0, false, 100);
        x.coming(0, true, 100);
        x.coming(0, false, 300);
        x.prepare();
        check.due("with a period", x.card(), true);
        check.due("without one", x.card(), false);
        check.due("the later one counts", x.read(0), 200);
        for (int i = 0; i < 23; i++) {
            x.read(0);
        }
        check.due("it does not come again", x.read(0), 0);
    }

    private static void comingRefuses() {
        Kernel x = new Kernel();
        Kernels.listener(x, 48000, 1, 16);
        for (int i : new int[] {-1, 24, Integer.MIN_VALUE, Integer.MAX_VALUE}) {
            check.dueThrow("coming(i)", Check.ARGUMENT, () -> x.coming(i, true, 0));
        }
        for (int v : new int[] {-32769, 32768, Integer.MIN_VALUE, Integer.MAX_VALUE}) {
            check.dueThrow("coming(v)", Check.ARGUMENT, () -> x.coming(0, true, v));
        }
        x.card();
        check.due("refused samples do not come", x.read(0), 0);
    }

    private static void onlyWhileRunning() {
        Kernel x = new Kernel();
        x.open(false, 48000, 1, 16);
        x.card();
        check.due("an opened one hears nothing", x.room(0), 0);
        x.start(0);
        x.coming(0, false, 20);
        x.card();
        x.pause(0);
        x.coming(0, false, 40);
        x.card();
        check.due("a paused one hears nothing", x.room(0), 24);
        check.due("a paused one may be read", x.read(0), 10);
        x.start(0);
        x.coming(0, false, 60);
        x.card();
        check.due("it goes on", x.room(0), 47);
        for (int i = 0; i < 23; i++) {
            x.read(0);
        }
        check.due("what comes behind the pause", x.read(0), 30);
        x.close(0);
        check.due("a new one", x.open(false, 48000, 1, 16), 0);
        check.due("it has nothing of the old one", x.room(0), 0);
    }

    private static void tooMany() {
        Kernel x = new Kernel();
        Kernels.listener(x, 48000, 1, 16);
        Kernels.cards(x, 8);
        check.due("192 are ready", x.room(0), 192);
        check.due("not late", x.late(0), 0);
        x.coming(0, false, 2000);
        x.card();
        check.due("216 would be too many", x.room(0), 192);
        check.due("late", x.late(0), 1);
        for (int i = 0; i < 15; i++) {
            x.read(0);
        }
        x.card();
        check.due("201 would be too many", x.late(0), 2);
        x.read(0);
        x.coming(0, false, 4000);
        x.card();
        check.due("200 are not", x.room(0), 200);
        check.due("not late again", x.late(0), 2);
        for (int i = 0; i < 176; i++) {
            check.due("those from before", x.read(0), 0);
        }
        check.due("the lost ones are gone", x.read(0), 2000);
        check.due("position counts what was read", x.position(0), 193);
    }

    private static void tooManyCountsHalfFrames() {
        Kernel x = new Kernel();
        Kernels.listener(x, 48000, 2, 16);
        Kernels.cards(x, 8);
        for (int i = 0; i < 31; i++) {
            x.read(0);
        }
        x.card();
        check.due("a frame read by half is not read", x.late(0), 1);
        x.read(0);
        x.card();
        check.due("read wholly it leaves room", x.late(0), 1);
        check.due("room", x.room(0), 400);
    }

    private static void readyBetweenRates() {
        // Frame n needs the captured one at n * 48000 / rate, rounded down, and 8 more.
        int[] rates = {8000, 11025, 16000, 22050, 32000, 44100, 48000};
        for (int rate : rates) {
            Kernel x = new Kernel();
            Kernels.listener(x, rate, 1, 16);
            for (int periods = 1; periods <= 4; periods++) {
                x.card();
                int due = 0;
                int behind = rate == 48000 ? 0 : 8;
                while (due * 48000L / rate + behind < 24 * periods) {
                    due++;
                }
                check.due("ready at " + rate, x.room(0), due);
            }
        }
    }
}
