/** Promises 9, 19, 20, 23, 25 and the counts 8 to 10 of promise 21: readings, false ones, nights, errors. */
public final class ReadingTest {
    private static void sameReading(String when, CloudBeams x, int... due) {
        for (int what = 0; what <= 3; what++) {
            Check.same("reading(" + what + ") " + when, due[what], x.reading(what));
        }
    }

    private static void sameNight(CloudBeams x, int ago, int... due) {
        for (int what = 0; what <= 3; what++) {
            Check.same("night(" + ago + ", " + what + ")", due[what], x.night(ago, what));
        }
    }

    private static void noReading(String when, CloudBeams x) {
        sameReading(when, x, CloudBeams.NONE, CloudBeams.NONE, CloudBeams.NONE, CloudBeams.NONE);
    }

    private static void reading() {
        CloudBeams x = new CloudBeams();
        noReading("of a clear sky", x);
        x.layer(290, 20);
        sameReading("with a layer below", x, 300, 0, 10, 0);
        x.layer(100, 3);
        sameReading("with one more layer", x, 300, 1, 10, 0);
        x.layer(310, 20);
        sameReading("of two with the same size the lowest", x, 300, 1, 10, 0);
        x.layer(305, 20);
        sameReading("of the layer that is nearest", x, 300, 2, -5, 0);
        x.set(2, 500);
        noReading("with spots that are not seen", x);
        x.undo();
        x.set(3, 3);
        noReading("with no close pair", x);
        x.undo();
        x.aim(0, -5);
        noReading("of beams that do not meet", x);
        for (int wrong : new int[] {-1, 4, Integer.MIN_VALUE, Integer.MAX_VALUE}) {
            Check.badArgument("reading(" + wrong + ")", () -> x.reading(wrong));
        }
    }

    /** The layer at 300 is too thin to be seen, and so gives the reading of 300 to the one at 305. */
    private static void falseReading() {
        CloudBeams x = new CloudBeams();
        x.layer(305, 20);
        x.layer(300, 1);
        sameReading("that is false", x, 300, 1, -5, 1);
        x.clear(0);
        x.layer(295, 1);
        sameReading("with two layers as near", x, 300, 1, -5, 0);
        x.clear(0);
        x.layer(296, 1);
        sameReading("with a layer nearer by 1", x, 300, 1, -5, 1);
        x.turn(1);
        noReading("of a light that is off", x);
    }

    private static void closePairOfBeamsThatPart() {
        CloudBeams x = new CloudBeams();
        x.set(0, 50);
        x.set(3, 100);
        x.layer(50, 50);
        x.aim(0, -5);
        Check.same("beams side by side have a close pair", 1, x.count(7));
        Check.same("beams side by side do not meet", CloudBeams.NONE, x.count(4));
        noReading("of beams side by side", x);
        Check.same("log()", 1, x.log());
        sameNight(x, 0, CloudBeams.NONE, CloudBeams.NONE, CloudBeams.NONE, 0);
    }

    private static void nights() {
        CloudBeams x = new CloudBeams();
        x.layer(305, 20);
        Check.same("log()", 1, x.log());
        x.layer(300, 1);
        Check.same("log() of a false one", 2, x.log());
        x.turn(0);
        Check.same("log() without a reading", 3, x.log());
        sameNight(x, 0, CloudBeams.NONE, CloudBeams.NONE, CloudBeams.NONE, 0);
        sameNight(x, 1, 300, 305, -5, 1);
        sameNight(x, 2, 300, 305, -5, 0);
        sameNight(x, 3, CloudBeams.NONE, CloudBeams.NONE, CloudBeams.NONE, CloudBeams.NONE);
        x.clearThin(100);
        sameNight(x, 1, 300, 305, -5, 1);
        for (int what = 0; what <= 3; what++) {
            int told = what;
            Check.badArgument("night(-1, " + what + ")", () -> x.night(-1, told));
            Check.badArgument("night(MIN, " + what + ")", () -> x.night(Integer.MIN_VALUE, told));
            Check.same("night(MAX, " + what + ")", CloudBeams.NONE, x.night(Integer.MAX_VALUE, what));
        }
        for (int wrong : new int[] {-1, 4, Integer.MIN_VALUE, Integer.MAX_VALUE}) {
            Check.badArgument("night(0, " + wrong + ")", () -> x.night(0, wrong));
            Check.badArgument("night(99, " + wrong + ")", () -> x.night(99, wrong));
        }
    }

    private static void eightNights() {
        CloudBeams x = new CloudBeams();
        x.layer(300, 1);
        x.layer(305, 20);
        for (int i = 1; i <= 8; i++) {
            Check.same("log() " + i, i, x.log());
        }
        Check.same("the false readings", 8, x.count(10));
        x.clear(0);
        Check.same("log() 9", 8, x.log());
        Check.same("the nights in the log", 8, x.count(8));
        Check.same("the nights logged so far", 9, x.count(9));
        Check.same("the false readings logged so far", 8, x.count(10));
        sameNight(x, 0, 300, 305, -5, 0);
        sameNight(x, 7, 300, 305, -5, 1);
        sameNight(x, 8, CloudBeams.NONE, CloudBeams.NONE, CloudBeams.NONE, CloudBeams.NONE);
        x.undo();
        Check.same("the nights logged so far after undo()", 8, x.count(9));
        sameNight(x, 0, 300, 305, -5, 1);
        sameNight(x, 7, 300, 305, -5, 1);
        x.undo();
        x.undo();
        Check.same("the nights in the log after three undo()", 7, x.count(8));
        Check.same("the false readings after three undo()", 7, x.count(10));
        sameNight(x, 7, CloudBeams.NONE, CloudBeams.NONE, CloudBeams.NONE, CloudBeams.NONE);
    }

    private static void meanError() {
        CloudBeams x = new CloudBeams();
        x.log();
        Check.sameFloat("meanError() without a reading", 0.0f, x.meanError());
        x.layer(305, 20);
        x.log();
        Check.sameFloat("meanError() of -5", 5.0f, x.meanError());
        x.clear(0);
        x.layer(299, 20);
        x.log();
        Check.sameFloat("meanError() of -5 and 1", 3.0f, x.meanError());
        x.log();
        Check.sameFloat("meanError() of -5, 1 and 1", 7.0f / 3.0f, x.meanError());
        x.turn(0);
        for (int i = 0; i < 5; i++) {
            x.log();
        }
        Check.sameFloat("meanError() with five nights without a reading", 7.0f / 3.0f, x.meanError());
        x.log();
        Check.sameFloat("meanError() after the -5 is out of the log", 1.0f, x.meanError());
        for (int i = 0; i < 2; i++) {
            x.log();
        }
        Check.sameFloat("meanError() after all readings are out of the log", 0.0f, x.meanError());
    }

    private static void ifScanned() {
        CloudBeams x = new CloudBeams();
        Check.same("ifScanned(0, 0) of a clear sky", 0, x.ifScanned(0, 0));
        Check.same("ifScanned(0, 1) of a clear sky", 0, x.ifScanned(0, 1));
        Check.same("ifScanned(0, 2) of a clear sky", CloudBeams.NONE, x.ifScanned(0, 2));
        Check.same("ifScanned(0, 3) of a clear sky", CloudBeams.NONE, x.ifScanned(0, 3));
        x.layer(100, 5);
        x.layer(300, 20);
        x.layer(500, 50);
        x.aim(0, 1);
        String before = Check.stateOf(x);
        Check.same("ifScanned(1, 0)", 5, x.ifScanned(1, 0));
        Check.same("ifScanned(1, 1)", 0, x.ifScanned(1, 1));
        Check.same("ifScanned(1, 2)", 70, x.ifScanned(1, 2));
        Check.same("ifScanned(1, 3)", 95, x.ifScanned(1, 3));
        Check.same("ifScanned(0, 0)", 5, x.ifScanned(0, 0));
        Check.same("ifScanned(0, 2)", 101, x.ifScanned(0, 2));
        Check.same("ifScanned(0, 3)", 126, x.ifScanned(0, 3));
        Check.sameText("the state after ifScanned()", before, Check.stateOf(x));
        x.layer(290, 1);
        x.set(3, 100);
        int falseOnes = falseSlopes(x);
        x.aim(0, 1);
        Check.same("ifScanned(0, 1) with a thin layer", falseOnes, x.ifScanned(0, 1));
        Check.same("there are false ones", 1, falseOnes > 0 ? 1 : 0);
        x.turn(1);
        Check.same("ifScanned(0, 0) with a light off", 0, x.ifScanned(0, 0));
        Check.same("ifScanned(1, 2) with a light off", CloudBeams.NONE, x.ifScanned(1, 2));
        for (int wrong : new int[] {-1, 4, Integer.MIN_VALUE, Integer.MAX_VALUE}) {
            Check.badArgument("ifScanned(0, " + wrong + ")", () -> x.ifScanned(0, wrong));
            Check.outOfBounds("ifScanned(2, " + wrong + ")", () -> x.ifScanned(2, wrong));
            Check.outOfBounds("ifScanned(" + wrong + ", 0)", () -> x.ifScanned(wrong, 0));
        }
    }

    private static int falseSlopes(CloudBeams x) {
        int found = 0;
        for (int slope = -30; slope <= 30; slope++) {
            x.aim(0, slope);
            found += x.reading(3) == 1 ? 1 : 0;
        }
        return found;
    }

    private static void countWrong() {
        CloudBeams x = new CloudBeams();
        for (int wrong : new int[] {-1, 17, Integer.MIN_VALUE, Integer.MAX_VALUE}) {
            Check.badArgument("count(" + wrong + ")", () -> x.count(wrong));
        }
    }

    public static void main(String[] args) {
        reading();
        falseReading();
        closePairOfBeamsThatPart();
        nights();
        eightNights();
        meanError();
        ifScanned();
        countWrong();
        Check.end();
    }
}
