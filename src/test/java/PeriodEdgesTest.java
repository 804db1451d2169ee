/** The edges of promises 13, 14, 16 to 19 for clients that play: prepare, card, played, position, late, level. */
public final class PeriodEdgesTest {
    private static final Check check = new Check();

    private PeriodEdgesTest() {
    }

    public static void main(String[] args) {
        samplesAndFrames();
        fourReady();
        fourKept();
        allZeroAtFirst();
        oldestFirst();
        cardWithoutAReadyOne();
        playedNumbers();
        positionIsOfPeriodsPlayed();
        positionOfEachRate();
        positionOfADrainedOne();
        positionOverGaps();
        levelOfOutputs();
        levelOfAFade();
        levelOfZeros();
        levelOfOneThatWasNotThere();
        levelIsOfTheLastPeriodMade();
        check.end();
    }

    private static void samplesAndFrames() {
        check.says("THE CARD plays and captures 48,000 FRAMES a second (a frame: a left and a right SAMPLE, -32768 .. 32767) in PERIODS of 24.");
        Kernel x = new Kernel();
        x.limit(false);
        Kernels.player(x, 48000, 2, 16);
        Kernels.fill(x, 0, 5, 46);
        Kernels.frames(x, 0, new int[][] {{-32768, 32767}, {32767, -32768}});
        Kernels.fill(x, 0, 6, 46);
        Kernels.play(x);
        check.due("left of frame 23", x.played(0, 23, false), -32768);
        check.due("right of frame 23", x.played(0, 23, true), 32767);
        Kernels.play(x);
        check.due("left of frame 24", x.played(0, 0, false), 32767);
        check.due("right of frame 24", x.played(0, 0, true), -32768);
        check.due("frame 23 is one period back", x.played(1, 23, false), -32768);
    }

    private static void fourReady() {
        check.says("At most 4 periods are READY;", "A period is made READY; false (and nothing happens) if 4 are.");
        Kernel x = new Kernel();
        for (int i = 1; i <= 4; i++) {
            check.due("prepare " + i, x.prepare(), true);
        }
        check.due("prepare 5", x.prepare(), false);
        check.due("prepare 6", x.prepare(), false);
        check.due("card", x.card(), true);
        check.due("with three one has room", x.prepare(), true);
        check.due("and no more", x.prepare(), false);
        for (int i = 1; i <= 4; i++) {
            check.due("card " + i, x.card(), true);
        }
        check.due("four were READY, and not five", x.card(), false);
    }

    private static void fourKept() {
        check.says("the last 4 that were played are kept");
        Kernel x = new Kernel();
        Kernels.player(x, 48000, 1, 16);
        for (int made = 1; made <= 7; made++) {
            Kernels.fill(x, 0, 10 * made, 24);
            Kernels.play(x);
            for (int period = 0; period < 4; period++) {
                int due = Math.max(0, 10 * (made - period));
                check.due("period " + period + " behind " + made, x.played(period, 0, false), due);
                check.due("its last frame", x.played(period, 23, true), due);
            }
        }
    }

    private static void allZeroAtFirst() {
        check.says("(all 0 at first).");
        Kernel x = new Kernel();
        for (int period = 0; period < 4; period++) {
            for (int i = 0; i < 24; i++) {
                check.due("left", x.played(period, i, false), 0);
                check.due("right", x.played(period, i, true), 0);
            }
        }
        Kernels.player(x, 48000, 1, 16);
        Kernels.fill(x, 0, 8, 24);
        x.prepare();
        check.due("what is READY is not played", x.played(0, 0, false), 0);
    }

    private static void oldestFirst() {
        check.says("The card plays the oldest READY period, and captures one: true;",
                "A sample of frame i of a played period, the last one being 0.");
        Kernel x = new Kernel();
        Kernels.player(x, 48000, 1, 16);
        Kernels.listener(x, 48000, 1, 16);
        int made = 0;
        int played = 0;
        for (int ready : new int[] {4, 1, 3, 2, 4}) {
            while (made - played < ready) {
                Kernels.fill(x, 0, ++made, 24);
                x.prepare();
            }
            check.due("card", x.card(), true);
            check.due("the oldest one", x.played(0, 23, false), ++played);
            while (made - played >= ready - 1 && made > played) {
                check.due("card again", x.card(), true);
                check.due("the next one", x.played(0, 0, true), ++played);
                check.due("the one before it", x.played(1, 0, true), played - 1);
            }
        }
        check.due("each card captured one", x.room(1), Math.min(8, played) * 24);
    }

    private static void cardWithoutAReadyOne() {
        check.says("without a READY one it plays zeros, captures as well, and answers false.");
        Kernel x = new Kernel();
        Kernels.player(x, 48000, 1, 16);
        Kernels.listener(x, 48000, 2, 16);
        // All periods that are kept hold something, so that zeros are seen.
        for (int period = 0; period < 4; period++) {
            Kernels.fill(x, 0, 9, 24);
            Kernels.play(x);
        }
        Kernels.fill(x, 0, 9, 24);
        check.due("card", x.card(), false);
        for (int i = 0; i < 24; i++) {
            check.due("left", x.played(0, i, false), 0);
            check.due("right", x.played(0, i, true), 0);
        }
        check.due("what was played before is one back", x.played(1, 23, false), 9);
        check.due("it takes none of the frames written", x.ahead(0), 1);
        check.due("nobody is LATE", x.late(0), 0);
        check.due("a period was captured", x.room(1), 5 * 48);
        check.due("again", x.card(), false);
        check.due("zeros again", x.played(0, 23, true), 0);
        check.due("what was played before is two back", x.played(2, 0, false), 9);
        check.due("and is kept as the last but three", x.played(3, 0, false), 9);
        Kernels.cards(x, 2);
        check.due("and then it is not kept", x.played(3, 0, false), 0);
    }

    private static void playedNumbers() {
        check.says("IllegalArgument: period is not 0 .. 3, or i not 0 .. 23.");
        Kernel x = new Kernel();
        Kernels.player(x, 48000, 2, 16);
        for (int i = 0; i < 96; i++) {
            x.write(0, i);
            x.write(0, -i);
        }
        for (int i = 0; i < 4; i++) {
            Kernels.play(x);
        }
        check.due("first of the last period", x.played(0, 0, false), 72);
        check.due("last of the last period", x.played(0, 23, true), -95);
        check.due("first of the oldest period", x.played(3, 0, true), 0);
        check.due("last of the oldest period", x.played(3, 23, false), 23);
        check.dueThrow("period -1", Check.ARGUMENT, () -> x.played(-1, 0, false));
        check.dueThrow("period 4", Check.ARGUMENT, () -> x.played(4, 0, false));
        check.dueThrow("frame -1", Check.ARGUMENT, () -> x.played(0, -1, true));
        check.dueThrow("frame 24", Check.ARGUMENT, () -> x.played(3, 24, true));
    }

    private static void positionIsOfPeriodsPlayed() {
        check.says("N being how many of its outputs were in periods that the card has played.");
        Kernel x = new Kernel();
        Kernels.player(x, 48000, 1, 16);
        Kernels.fill(x, 0, 3, 96);
        for (int i = 0; i < 4; i++) {
            x.prepare();
            check.due("what is READY does not count", x.position(0), 0);
        }
        x.pause(0);
        for (int i = 1; i <= 4; i++) {
            x.card();
            check.due("what is played does, PAUSED or not", x.position(0), 24 * i);
        }
        x.card();
        check.due("zeros of the card do not", x.position(0), 96);
        Kernels.play(x);
        check.due("nor do zeros of a PAUSED one", x.position(0), 96);
        x.start(0);
        Kernels.play(x);
        check.due("nor does what fades", x.position(0), 96);
    }

    private static void positionOfEachRate() {
        check.says("A client's POSITION is where its output N lies (i),");
        int[][] due = {{4, 8, 12}, {5, 11, 16}, {8, 16, 24}, {11, 22, 33}, {16, 32, 48}, {22, 44, 66}, {24, 48, 72}};
        for (int i = 0; i < due.length; i++) {
            Kernel x = new Kernel();
            Kernels.player(x, Rates.ALL[i], 1, 16);
            check.due("position at first", x.position(0), 0);
            Kernels.fill(x, 0, 1, 100);
            for (int position : due[i]) {
                Kernels.play(x);
                check.due("position at " + Rates.ALL[i], x.position(0), position);
            }
        }
    }

    /** A DRAINING one gives all 24 outputs, also those that lie behind the frames that were written. */
    private static void positionOfADrainedOne() {
        check.says("where its output N lies (i), N being how many of its outputs");
        Kernel x = new Kernel();
        Kernels.player(x, 48000, 1, 16);
        x.write(0, 1);
        x.drain(0);
        x.prepare();
        check.due("STOPPED before it is played", x.state(0), 4);
        check.due("position before it is played", x.position(0), 0);
        x.card();
        check.due("position", x.position(0), 24);
        Kernels.play(x);
        check.due("a STOPPED one gives no outputs", x.position(0), 24);
    }

    /** Periods with outputs and without them take turns, so that each place among the READY ones is used for both. */
    private static void positionOverGaps() {
        check.says("how many of its outputs were in periods that the card has played.");
        boolean[] gives = {true, false, false, true, false, true, true, false, true, false, false, false, true};
        Kernel x = new Kernel();
        Kernels.player(x, 48000, 1, 16);
        int due = 0;
        for (int i = 0; i < gives.length + 2; i++) {
            if (i < gives.length) {
                Kernels.fill(x, 0, 1, gives[i] ? 24 : 0);
                x.prepare();
            }
            if (i >= 2) {
                due += gives[i - 2] ? 24 : 0;
                x.card();
                check.due("position behind period " + (i - 2), x.position(0), due);
            }
        }
    }

    private static void levelOfOutputs() {
        check.says("The mean of the squares of the 48 samples that a client gave to the last period made READY (outputs,",
                "before its GAIN: their sum divided by 48;");
        Kernel x = new Kernel();
        Kernels.player(x, 48000, 2, 16);
        Kernels.fill(x, 0, 0, 47);
        x.write(0, 1);
        x.gain(0, 0);
        x.prepare();
        check.dueDouble("one sample of 48 is 1", x.level(0), 1 / 48.0);
        Kernels.fill(x, 0, -32768, 48);
        x.prepare();
        check.dueDouble("the greatest that can be", x.level(0), 1073741824.0);
        x.write(0, -3);
        Kernels.fill(x, 0, 0, 47);
        x.gain(0, 0.5);
        x.prepare();
        check.dueDouble("the first of 48 is -3", x.level(0), 9 / 48.0);
        Kernels.fill(x, 0, 2, 48);
        x.prepare();
        check.dueDouble("all are 2", x.level(0), 4);
    }

    private static void levelOfAFade() {
        check.says("what fades instead, or 0)");
        Kernel x = new Kernel();
        Kernels.player(x, 48000, 2, 16);
        Kernels.fill(x, 0, 0, 46);
        Kernels.numbers(x, 0, 16, -16);
        x.prepare();
        x.gain(0, 0.25);
        x.prepare();
        // 15, 14, .. 1 of both channels: the sum of their squares is 1240.
        check.dueDouble("level", x.level(0), 2 * 1240 / 48.0);
        x.prepare();
        check.dueDouble("level when nothing is left to fade", x.level(0), 0);
    }

    private static void levelOfZeros() {
        check.says("All else gives 0.");
        for (int state : new int[] {0, 2, 4}) {
            Kernel x = new Kernel();
            x.open(true, 48000, 1, 16);
            if (state > 0) {
                x.start(0);
                Kernels.fill(x, 0, 100, 24);
                Kernels.play(x);
                check.dueDouble("level of outputs", x.level(0), 10000);
            }
            if (state == 2) {
                x.pause(0);
            }
            if (state == 4) {
                x.drain(0);
                Kernels.play(x);
            }
            check.due("state", x.state(0), state);
            if (state < 4) {
                Kernels.fill(x, 0, 100, 48);
            }
            Kernels.play(x);
            check.dueDouble("level in state " + state, x.level(0), 0);
            check.due("first sample in state " + state, x.played(0, 0, false), 0);
            check.due("last sample in state " + state, x.played(0, 23, true), 0);
            check.due("late in state " + state, x.late(0), 0);
            check.due("ahead in state " + state, x.ahead(0), state < 4 ? 2 : 0);
            check.due("state behind it", x.state(0), state);
        }
    }

    private static void levelOfOneThatWasNotThere() {
        check.says("0 if it was not there then.");
        Kernel x = new Kernel();
        int first = Kernels.player(x, 48000, 1, 16);
        check.dueDouble("before any period", x.level(first), 0);
        Kernels.fill(x, first, 10, 48);
        x.prepare();
        int second = Kernels.player(x, 48000, 1, 16);
        Kernels.fill(x, second, 20, 24);
        check.dueDouble("opened behind the period", x.level(second), 0);
        check.dueDouble("the other was there", x.level(first), 100);
        x.prepare();
        check.dueDouble("there at the next", x.level(second), 400);
        x.close(second);
        check.due("the same number again", Kernels.player(x, 48000, 1, 16), second);
        check.dueDouble("the new one was not there", x.level(second), 0);
    }

    private static void levelIsOfTheLastPeriodMade() {
        check.says("a client gave to the last period made READY");
        Kernel x = new Kernel();
        Kernels.player(x, 48000, 1, 16);
        for (int period = 1; period <= 5; period++) {
            Kernels.fill(x, 0, period, 24);
        }
        for (int period = 1; period <= 4; period++) {
            x.prepare();
            check.dueDouble("level of period " + period, x.level(0), period * period);
        }
        x.prepare();
        check.dueDouble("a period that is not made changes none", x.level(0), 16);
        x.card();
        check.dueDouble("nor does the card", x.level(0), 16);
        x.pause(0);
        check.dueDouble("nor does a pause", x.level(0), 16);
        x.prepare();
        check.dueDouble("a period without it does", x.level(0), 0);
    }
}
