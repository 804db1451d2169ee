/** Promises 9, 11 to 14 and 16 to 19 for clients that play: write, room, ahead, prepare, card, played, position, late, level. */
public final class PlayingTest {
    private static final Check check = new Check();

    private PlayingTest() {
    }

    public static void main(String[] args) {
        writeAndRoomOfOneChannel();
        writeAndRoomOfTwoChannels();
        writeRefuses();
        numbersOfEightBits();
        roomBetweenRates();
        aheadAtTheCardsRate();
        aheadBetweenRates();
        prepareAndCard();
        playedKeepsFour();
        playedRefuses();
        positionCountsWhatTheCardPlayed();
        positionBetweenRates();
        lateFades();
        lateFadesBelowZero();
        lastIsKeptOverAPause();
        level();
        check.end();
    }

    private static void writeAndRoomOfOneChannel() {
        Kernel x = new Kernel();
        x.open(true, 48000, 1, 16);
        check.due("room of an opened one", x.room(0), 200);
        check.due("200 frames have room", Kernels.fill(x, 0, 1, 200), 200);
        check.due("room of a full one", x.room(0), 0);
        check.due("frame 201 has none", x.write(0, 2), false);
        x.start(0);
        x.prepare();
        check.due("room when a period was given", x.room(0), 24);
        x.pause(0);
        check.due("writing to a paused one", Kernels.fill(x, 0, 3, 30), 24);
        x.start(0);
        for (int i = 0; i < 9; i++) {
            x.card();
            x.prepare();
        }
        check.due("what was refused is nowhere", x.late(0), 1);
        check.due("room at the end", x.room(0), 192);
    }

    private static void writeAndRoomOfTwoChannels() {
        Kernel x = new Kernel();
        Kernels.player(x, 48000, 2, 16);
        check.due("room", x.room(0), 400);
        x.write(0, 11);
        check.due("room behind a left number", x.room(0), 399);
        x.write(0, 22);
        check.due("room behind a frame", x.room(0), 398);
        check.due("the rest has room", Kernels.fill(x, 0, 33, 397), 397);
        check.due("room for the last right number", x.room(0), 1);
        check.due("the last right number", x.write(0, 44), true);
        check.due("a left one more", x.write(0, 55), false);
        check.due("no room", x.room(0), 0);
        Kernels.play(x);
        check.due("left first", x.played(0, 0, false), 11);
        check.due("then right", x.played(0, 0, true), 22);
        check.due("a refused left number is not kept", x.room(0), 48);
    }

    private static void writeRefuses() {
        Kernel x = new Kernel();
        x.open(true, 48000, 2, 8);
        x.open(true, 48000, 2, 16);
        x.open(false, 48000, 1, 16);
        for (int v : new int[] {-1, 256, Integer.MIN_VALUE, Integer.MAX_VALUE}) {
            check.dueThrow("write of 8 bits", Check.ARGUMENT, () -> x.write(0, v));
        }
        for (int v : new int[] {-32769, 32768, Integer.MIN_VALUE, Integer.MAX_VALUE}) {
            check.dueThrow("write of 16 bits", Check.ARGUMENT, () -> x.write(1, v));
        }
        check.dueThrow("write to one that listens", Check.ARGUMENT, () -> x.write(2, 0));
        check.due("refused numbers change nothing", x.room(0) + x.room(1), 800);
        check.due("least of 8 bits", x.write(0, 0), true);
        check.due("greatest of 8 bits", x.write(0, 255), true);
        check.due("least of 16 bits", x.write(1, -32768), true);
        check.due("greatest of 16 bits", x.write(1, 32767), true);
        Kernels.fill(x, 0, 128, 400);
        check.dueThrow("a wrong number without room", Check.ARGUMENT, () -> x.write(0, 256));
    }

    private static void numbersOfEightBits() {
        Kernel x = new Kernel();
        x.limit(false);
        Kernels.player(x, 48000, 1, 8);
        int[] numbers = {0, 1, 127, 128, 129, 255};
        int[] samples = {-32768, -32512, -256, 0, 256, 32512};
        for (int v : numbers) {
            x.write(0, v);
        }
        Kernels.fill(x, 0, 128, 18);
        Kernels.play(x);
        for (int i = 0; i < numbers.length; i++) {
            check.due("8 bits, left", x.played(0, i, false), samples[i]);
            check.due("8 bits, right", x.played(0, i, true), samples[i]);
        }
    }

    private static void roomBetweenRates() {
        Kernel x = new Kernel();
        Kernels.player(x, 44100, 1, 16);
        Kernels.fill(x, 0, 1, 200);
        // 24 * 44100 / 48000 is 22.05, 48 of them 44.1.
        x.prepare();
        check.due("room behind one period", x.room(0), 22);
        x.prepare();
        check.due("room behind two periods", x.room(0), 44);
    }

    private static void aheadAtTheCardsRate() {
        Kernel x = new Kernel();
        x.open(true, 48000, 1, 16);
        check.due("ahead of nothing", x.ahead(0), 0);
        Kernels.fill(x, 0, 1, 23);
        check.due("ahead of 23", x.ahead(0), 0);
        x.write(0, 1);
        check.due("ahead of 24", x.ahead(0), 1);
        Kernels.fill(x, 0, 1, 23);
        check.due("ahead of 47", x.ahead(0), 1);
        Kernels.fill(x, 0, 1, 153);
        check.due("ahead of 200", x.ahead(0), 8);
        x.start(0);
        x.prepare();
        check.due("ahead of 176", x.ahead(0), 7);
        x.open(false, 48000, 1, 16);
        check.dueThrow("ahead of one that listens", Check.ARGUMENT, () -> x.ahead(1));
    }

    private static void aheadBetweenRates() {
        Kernel x = new Kernel();
        Kernels.player(x, 8000, 1, 16);
        // Output 23 lies at 3 and needs frame 11; each period more needs 4 frames more.
        Kernels.fill(x, 0, 1, 11);
        check.due("ahead of 11 at 8000", x.ahead(0), 0);
        x.prepare();
        check.due("11 are not enough", x.late(0), 1);
        x.write(0, 1);
        check.due("ahead of 12 at 8000", x.ahead(0), 1);
        x.prepare();
        check.due("12 are enough", x.late(0), 1);
        check.due("ahead behind it", x.ahead(0), 0);
        Kernels.fill(x, 0, 1, 4);
        check.due("ahead of 16 at 8000", x.ahead(0), 1);
        Kernels.fill(x, 0, 1, 200);
        check.due("ahead of a full one at 8000", x.ahead(0), 48);
    }

    private static void prepareAndCard() {
        Kernel x = new Kernel();
        Kernels.player(x, 48000, 1, 16);
        for (int period = 1; period <= 5; period++) {
            Kernels.fill(x, 0, period, 24);
        }
        for (int i = 0; i < 4; i++) {
            check.due("prepare", x.prepare(), true);
        }
        check.due("a fifth", x.prepare(), false);
        check.due("a refused period takes no frames", x.ahead(0), 1);
        for (int period = 1; period <= 4; period++) {
            check.due("card", x.card(), true);
            check.due("the oldest first", x.played(0, 0, false), period);
        }
        check.due("card without a ready one", x.card(), false);
        check.due("it plays zeros", x.played(0, 0, false), 0);
        check.due("the one before it is kept", x.played(1, 0, false), 4);
        check.due("there is room for a period again", x.prepare(), true);
        check.due("card again", x.card(), true);
        check.due("the fifth", x.played(0, 0, false), 5);
        check.due("none was late", x.late(0), 0);
    }

    private static void playedKeepsFour() {
        Kernel x = new Kernel();
        Kernels.player(x, 48000, 2, 16);
        for (int i = 0; i < 120; i++) {
            x.write(0, i);
            x.write(0, 1000 + i);
        }
        for (int i = 0; i < 5; i++) {
            Kernels.play(x);
        }
        for (int period = 0; period < 4; period++) {
            for (int i = 0; i < 24; i++) {
                int frame = 24 * (4 - period) + i;
                check.due("kept left", x.played(period, i, false), frame);
                check.due("kept right", x.played(period, i, true), 1000 + frame);
            }
        }
    }

    private static void playedRefuses() {
        Kernel x = new Kernel();
        for (int period : new int[] {-1, 4, Integer.MIN_VALUE, Integer.MAX_VALUE}) {
            check.dueThrow("played(period)", Check.ARGUMENT, () -> x.played(period, 0, true));
        }
        for (int i : new int[] {-1, 24, Integer.MIN_VALUE, Integer.MAX_VALUE}) {
            check.dueThrow("played(i)", Check.ARGUMENT, () -> x.played(0, i, true));
        }
    }

    private static void positionCountsWhatTheCardPlayed() {
        Kernel x = new Kernel();
        Kernels.player(x, 48000, 1, 16);
        Kernels.fill(x, 0, 7, 48);
        x.prepare();
        x.prepare();
        x.prepare();
        check.due("nothing is played", x.position(0), 0);
        x.card();
        check.due("one is played", x.position(0), 24);
        x.card();
        check.due("two are played", x.position(0), 48);
        x.card();
        check.due("what fades is no output", x.position(0), 48);
        x.card();
        check.due("zeros are no output", x.position(0), 48);
    }

    private static void positionBetweenRates() {
        Kernel x = new Kernel();
        Kernels.player(x, 11025, 1, 16);
        Kernels.fill(x, 0, 7, 60);
        // 24 * 11025 / 48000 is 5.5125; then 11.025, 16.5375, 22.05.
        int[] due = {5, 11, 16, 22};
        for (int position : due) {
            Kernels.play(x);
            check.due("position at 11025", x.position(0), position);
        }
    }

    private static void lateFades() {
        Kernel x = new Kernel();
        Kernels.player(x, 48000, 2, 16);
        Kernels.play(x);
        check.due("late at first", x.late(0), 1);
        check.due("nothing to fade", x.played(0, 0, false), 0);
        for (int i = 0; i < 24; i++) {
            x.write(0, 1600);
            x.write(0, 33);
        }
        Kernels.play(x);
        Kernels.play(x);
        check.due("late again", x.late(0), 2);
        check.due("the first of the fade", x.played(0, 0, false), 1500);
        check.due("rounded down", x.played(0, 0, true), 30);
        check.due("j 7", x.played(0, 7, false), 800);
        check.due("j 14", x.played(0, 14, false), 100);
        check.due("j 14, rounded down", x.played(0, 14, true), 2);
        for (int j = 15; j < 24; j++) {
            check.due("behind the fade", x.played(0, j, false) | x.played(0, j, true), 0);
        }
        Kernels.play(x);
        check.due("late a third time", x.late(0), 3);
        check.due("there is nothing left to fade", x.played(0, 0, false), 0);
        Kernels.fill(x, 0, 50, 46);
        Kernels.play(x);
        check.due("23 frames are not enough", x.late(0), 4);
        Kernels.fill(x, 0, 50, 2);
        Kernels.play(x);
        check.due("with one more they are given", x.played(0, 0, false), 50);
        check.due("and it was not late", x.late(0), 4);
    }

    private static void lateFadesBelowZero() {
        Kernel x = new Kernel();
        Kernels.player(x, 48000, 1, 16);
        Kernels.fill(x, 0, -33, 24);
        Kernels.play(x);
        x.gain(0, 0.5);
        Kernels.play(x);
        // -33 * 15 / 16 is -30.9.., rounded down -31; half of it -15.5, rounded down -16.
        check.due("a fade below zero, with gain", x.played(0, 0, true), -16);
        check.due("its end", x.played(0, 14, true), -2);
        check.due("behind its end", x.played(0, 15, true), 0);
        // -31, -29, -27, -25, -23, -21, -19, -17, -15, -13, -11, -9, -7, -5, -3 of each channel.
        check.dueDouble("the level of a fade, before the gain", x.level(0), 2 * 5455 / 48.0);
    }

    private static void lastIsKeptOverAPause() {
        Kernel x = new Kernel();
        Kernels.player(x, 48000, 1, 16);
        Kernels.fill(x, 0, 160, 24);
        Kernels.play(x);
        x.pause(0);
        Kernels.play(x);
        x.start(0);
        Kernels.play(x);
        check.due("the fade behind a pause", x.played(0, 0, false), 150);
    }

    private static void level() {
        Kernel x = new Kernel();
        Kernels.player(x, 48000, 2, 16);
        check.dueDouble("level at first", x.level(0), 0);
        x.write(0, 3);
        x.write(0, -4);
        Kernels.fill(x, 0, 0, 46);
        x.gain(0, 0);
        check.dueDouble("level before a period", x.level(0), 0);
        x.prepare();
        check.dueDouble("level before the gain", x.level(0), 25 / 48.0);
        int late = Kernels.player(x, 48000, 1, 16);
        check.dueDouble("it was not there then", x.level(late), 0);
        Kernels.fill(x, late, -32768, 24);
        x.prepare();
        check.dueDouble("the greatest level", x.level(late), 1073741824.0);
        check.dueDouble("a faded zero", x.level(0), 0);
        x.card();
        check.dueDouble("the card changes no level", x.level(late), 1073741824.0);
        x.open(false, 48000, 1, 16);
        check.dueThrow("level of one that listens", Check.ARGUMENT, () -> x.level(2));
    }
}
