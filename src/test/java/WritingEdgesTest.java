/** The edges of promises 9, 11 and 12 for clients that play: write, room, ahead. */
public final class WritingEdgesTest {
    /** A rate, and how many frames must be written for the first period and for the first two. */
    private static final int[][] NEEDED = {{8000, 12, 16}, {11025, 14, 19}, {16000, 16, 24}, {22050, 19, 30},
        {32000, 24, 40}, {44100, 30, 52}, {48000, 24, 48}};
    private static final Check check = new Check();

    private WritingEdgesTest() {
    }

    public static void main(String[] args) {
        numbersOfEightBits();
        numbersOfSixteenBits();
        oneChannel();
        leftThenRight();
        twoHundredFrames();
        twoHundredFramesOfTwoChannels();
        roomBehindThePlace();
        roomOfAFrameBegun();
        roomInEveryState();
        writeWhileNotRunning();
        framesBeyondTheFirst256();
        aheadOfEachRate();
        aheadOfAFullOne();
        aheadBehindAPeriod();
        aheadInEveryState();
        check.end();
    }

    private static void numbersOfEightBits() {
        check.says("A number v of 8 BITS, 0 .. 255, is the sample (v - 128) * 256;");
        for (int first = 0; first < 256; first += 24) {
            Kernel x = new Kernel();
            x.limit(false);
            Kernels.player(x, 48000, 1, 8);
            for (int i = 0; i < 24; i++) {
                x.write(0, Math.min(255, first + i));
            }
            Kernels.play(x);
            for (int i = 0; i < 24 && first + i < 256; i++) {
                check.due("sample of " + (first + i), x.played(0, i, false), (first + i - 128) * 256);
            }
        }
        Kernel x = new Kernel();
        x.open(true, 48000, 1, 8);
        check.dueThrow("write of -1", Check.ARGUMENT, () -> x.write(0, -1));
        check.dueThrow("write of 256", Check.ARGUMENT, () -> x.write(0, 256));
    }

    private static void numbersOfSixteenBits() {
        check.says("of 16 it is the sample.");
        int[] numbers = {-32768, -32767, -129, -1, 0, 1, 127, 255, 256, 32766, 32767};
        Kernel x = new Kernel();
        x.limit(false);
        Kernels.player(x, 48000, 1, 16);
        Kernels.numbers(x, 0, numbers);
        Kernels.fill(x, 0, 0, 24 - numbers.length);
        check.dueThrow("write of -32769", Check.ARGUMENT, () -> x.write(0, -32769));
        check.dueThrow("write of 32768", Check.ARGUMENT, () -> x.write(0, 32768));
        Kernels.play(x);
        for (int i = 0; i < numbers.length; i++) {
            check.due("sample", x.played(0, i, false), numbers[i]);
        }
    }

    private static void oneChannel() {
        check.says("With one CHANNEL both samples of a frame are the number;");
        Kernel x = new Kernel();
        Kernels.player(x, 48000, 1, 16);
        for (int i = 0; i < 24; i++) {
            x.write(0, 100 + i);
        }
        Kernels.play(x);
        for (int i = 0; i < 24; i++) {
            check.due("left", x.played(0, i, false), 100 + i);
            check.due("right", x.played(0, i, true), 100 + i);
        }
    }

    private static void leftThenRight() {
        check.says("One number more (left first, then right):");
        Kernel x = new Kernel();
        Kernels.player(x, 48000, 2, 8);
        for (int i = 0; i < 47; i++) {
            x.write(0, 128 + i);
        }
        x.prepare();
        check.due("a left number is no frame", x.late(0), 1);
        check.due("the right one that ends it", x.write(0, 128 + 47), true);
        x.prepare();
        check.due("now it is", x.late(0), 1);
        Kernels.cards(x, 2);
        for (int i = 0; i < 24; i++) {
            check.due("left", x.played(0, i, false), 256 * 2 * i);
            check.due("right", x.played(0, i, true), 256 * (2 * i + 1));
        }
    }

    private static void twoHundredFrames() {
        check.says("Frames are written as long as less than 200 of them are at the PLACE or behind.");
        for (int rate : Rates.ALL) {
            Kernel x = new Kernel();
            x.open(true, rate, 1, 16);
            check.due("199 frames at " + rate, Kernels.fill(x, 0, 1, 199), 199);
            check.due("room for one", x.room(0), 1);
            check.due("frame 200", x.write(0, 2), true);
            check.due("room for none", x.room(0), 0);
            check.due("frame 201", x.write(0, 3), false);
            check.due("frame 201 again", x.write(0, 3), false);
            x.start(0);
            x.prepare();
            int moved = Rates.place(24, rate, 48000);
            check.due("room behind a period at " + rate, x.room(0), moved);
            check.due("frames behind a period", Kernels.fill(x, 0, 4, moved), moved);
            check.due("no more than those", x.write(0, 5), false);
            x.prepare();
            check.due("room behind two periods at " + rate, x.room(0), Rates.place(48, rate, 48000) - moved);
        }
    }

    private static void twoHundredFramesOfTwoChannels() {
        check.says("whether there was room for its frame.");
        Kernel x = new Kernel();
        Kernels.player(x, 48000, 2, 16);
        check.due("199 frames and a left number", Kernels.fill(x, 0, 10, 399), 399);
        check.due("room for its right one", x.room(0), 1);
        check.due("the right number of frame 200", x.write(0, 20), true);
        check.due("room for none", x.room(0), 0);
        check.due("the left number of frame 201", x.write(0, 30), false);
        check.due("still room for none", x.room(0), 0);
        check.due("what would be its right one", x.write(0, 40), false);
        check.due("and once more", x.write(0, 40), false);
        x.prepare();
        check.due("room for the frames of a period", x.room(0), 48);
        check.due("numbers of a period", Kernels.fill(x, 0, 50, 48), 48);
        check.due("one more", x.write(0, 60), false);
        for (int period = 1; period < 9; period++) {
            x.card();
            x.prepare();
        }
        x.card();
        check.due("the last right number that had room", x.played(0, 7, true), 20);
        check.due("behind it the next that had room, left", x.played(0, 8, false), 50);
        check.due("and right", x.played(0, 8, true), 50);
    }

    /** At 11025 a period moves the PLACE by 5.5125: what counts is its whole part. */
    private static void roomBehindThePlace() {
        check.says("Its NEXT output is the first that was not given; its PLACE is where that lies, i.");
        int[] due = {5, 11, 16, 22, 27, 33, 38, 44, 49};
        Kernel x = new Kernel();
        Kernels.player(x, 11025, 1, 16);
        Kernels.fill(x, 0, 1, 200);
        for (int room : due) {
            x.prepare();
            x.card();
            check.due("room at 11025", x.room(0), room);
        }
        x.pause(0);
        Kernels.play(x);
        check.due("a period without outputs moves nothing", x.room(0), 49);
        Kernel y = new Kernel();
        Kernels.player(y, 48000, 1, 16);
        Kernels.fill(y, 0, 1, 23);
        y.prepare();
        check.due("nor does one that is LATE", y.room(0), 177);
        y.write(0, 1);
        y.prepare();
        check.due("24 outputs do, when they are made", y.room(0), 200);
        y.card();
        check.due("and not when they are played", y.room(0), 200);
    }

    private static void roomOfAFrameBegun() {
        check.says("Numbers that may be written now one after the other");
        for (int bits = 8; bits <= 16; bits += 8) {
            Kernel x = new Kernel();
            x.open(true, 44100, 2, bits);
            for (int written = 0; written < 400; written++) {
                if (written < 5 || written > 395) {
                    check.due("room behind numbers " + written, x.room(0), 400 - written);
                }
                check.due("number " + written, x.write(0, 1), true);
            }
            check.due("room behind all", x.room(0), 0);
            check.due("one more", x.write(0, 1), false);
        }
    }

    /** None may be written to one that is DRAINING or STOPPED, so that its room is 0. */
    private static void roomInEveryState() {
        check.says("Numbers that may be written now one after the other (of one that listens: that are ready).");
        for (int state = 0; state < 5; state++) {
            for (int channels = 1; channels <= 2; channels++) {
                Kernel x = new Kernel();
                Kernels.playerIn(x, state, 32000, channels, 16);
                check.due("state", x.state(0), state);
                check.due("room in state " + state, x.room(0), state < 3 ? 200 * channels : 0);
            }
        }
    }

    private static void writeWhileNotRunning() {
        check.says("One number more (left first, then right): whether there was room for its frame.");
        for (int state = 0; state < 5; state++) {
            Kernel x = new Kernel();
            Kernels.playerIn(x, state, 48000, 2, 16);
            if (state >= 3) {
                check.dueThrow("write in state " + state, Check.STATE, () -> x.write(0, 7));
                check.dueThrow("write of no number in state " + state, Check.ARGUMENT, () -> x.write(0, 32768));
                continue;
            }
            check.due("left in state " + state, x.write(0, 7), true);
            if (state != 1) {
                x.start(0);
            }
            x.pause(0);
            check.due("right while it is PAUSED", x.write(0, 8), true);
            Kernels.fill(x, 0, 0, 46);
            x.start(0);
            Kernels.play(x);
            check.due("left of the frame", x.played(0, 0, false), 7);
            check.due("right of the frame", x.played(0, 0, true), 8);
        }
    }

    /** Frames come and go for longer than any row that holds them can be, with as many ahead as may be. */
    private static void framesBeyondTheFirst256() {
        check.says("PLAYING. A client's frames are x, its outputs (at 48,000) y, from 0 on.");
        for (int rate : Rates.ALL) {
            int[] frames = new int[300];
            for (int i = 0; i < frames.length; i++) {
                frames[i] = i * 7919 % 30011 - 15000;
            }
            Kernel x = new Kernel();
            Kernels.player(x, rate, 1, 16);
            int written = 0;
            int period = 0;
            while (Rates.framesFor(24 * period + 23, rate, 48000) <= frames.length && x.calls() < 480) {
                while (written < frames.length && written - Rates.place(24 * period, rate, 48000) < 200) {
                    check.due("write " + written + " at " + rate, x.write(0, frames[written++]), true);
                }
                Kernels.play(x);
                for (int i = 0; i < 24; i += 23) {
                    int due = Rates.sample(frames, 24 * period + i, rate, 48000);
                    check.due("output " + (24 * period + i) + " at " + rate, x.played(0, i, false), due);
                }
                period++;
            }
            check.due("late at " + rate, x.late(0), 0);
        }
    }

    private static void aheadOfEachRate() {
        check.says("How many periods in a row the frames written are enough for.",
                "It NEEDS x(i + 8) (x(i), if a is b).");
        for (int[] needed : NEEDED) {
            Kernel x = new Kernel();
            Kernels.player(x, needed[0], 1, 16);
            check.due("ahead of nothing at " + needed[0], x.ahead(0), 0);
            Kernels.fill(x, 0, 1, needed[1] - 1);
            check.due("ahead of one frame too few at " + needed[0], x.ahead(0), 0);
            x.write(0, 1);
            check.due("ahead of just enough at " + needed[0], x.ahead(0), 1);
            Kernels.fill(x, 0, 1, needed[2] - needed[1] - 1);
            check.due("ahead of one too few for two at " + needed[0], x.ahead(0), 1);
            x.write(0, 1);
            check.due("ahead of just enough for two at " + needed[0], x.ahead(0), 2);
            x.prepare();
            x.prepare();
            check.due("they are enough at " + needed[0], x.late(0), 0);
            x.prepare();
            check.due("and for no more at " + needed[0], x.late(0), 1);
        }
    }

    private static void aheadOfAFullOne() {
        check.says("How many periods in a row");
        int[] due = {48, 34, 24, 17, 12, 8, 8};
        for (int i = 0; i < due.length; i++) {
            Kernel x = new Kernel();
            Kernels.player(x, Rates.ALL[i], 1, 16);
            Kernels.fill(x, 0, 1, 201);
            check.due("ahead of 200 at " + Rates.ALL[i], x.ahead(0), due[i]);
            for (int period = 0; period < due[i]; period++) {
                Kernels.play(x);
            }
            check.due("so many are not LATE at " + Rates.ALL[i], x.late(0), 0);
            check.due("ahead at the end", x.ahead(0), 0);
            Kernels.play(x);
            check.due("one more is LATE at " + Rates.ALL[i], x.late(0), 1);
        }
    }

    private static void aheadBehindAPeriod() {
        check.says("the frames written are enough for.");
        Kernel x = new Kernel();
        Kernels.player(x, 48000, 2, 16);
        Kernels.fill(x, 0, 1, 95);
        check.due("a frame begun is not written", x.ahead(0), 1);
        x.write(0, 1);
        check.due("a frame ended is", x.ahead(0), 2);
        x.prepare();
        check.due("one period less", x.ahead(0), 1);
        x.card();
        check.due("the card changes nothing", x.ahead(0), 1);
        x.prepare();
        check.due("none", x.ahead(0), 0);
        x.prepare();
        check.due("none when it was LATE", x.ahead(0), 0);
    }

    private static void aheadInEveryState() {
        check.says("How many periods in a row the frames written");
        for (int state = 0; state < 4; state++) {
            Kernel x = new Kernel();
            x.open(true, 48000, 1, 16);
            Kernels.fill(x, 0, 1, 49);
            if (state > 0) {
                x.start(0);
            }
            if (state == 2) {
                x.pause(0);
            }
            if (state == 3) {
                x.drain(0);
            }
            check.due("state", x.state(0), state);
            check.due("ahead in state " + state, x.ahead(0), 2);
        }
        Kernel x = new Kernel();
        Kernels.playerIn(x, 4, 8000, 1, 16);
        check.due("ahead when it is STOPPED", x.ahead(0), 0);
    }
}
