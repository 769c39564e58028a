/** Boundary cases of the log, a test for each sentence: "Terms: Log", promises 9, 20 and 25, counts 8 to 10. */
public final class LogEdgesTest {
    private static final int MIN = Integer.MIN_VALUE;
    private static final int MAX = Integer.MAX_VALUE;
    private static final int NONE = CloudBeams.NONE;

    private static void night(String when, CloudBeams x, int ago, int... due) {
        for (int what = 0; what <= 3; what++) {
            Check.same("night(" + ago + ", " + what + ") " + when, due[what], x.night(ago, what));
        }
    }

    private static void unknown(String when, CloudBeams x, int ago) {
        night(when, x, ago, NONE, NONE, NONE, NONE);
    }

    /** Logs a night for each error: the reading of 300 and a layer so far below it. */
    private static void logErrors(CloudBeams x, int... errors) {
        for (int error : errors) {
            x.clearThin(100);
            x.layer(300 - error, 10);
            x.log();
        }
    }

    private static void latestEight() {
        Check.sentence("The log knows the latest 8 nights");
        CloudBeams x = new CloudBeams();
        x.set(3, 100);
        for (int nights = 0; nights <= 10; nights++) {
            int known = Math.min(8, nights);
            Check.same("count(8) after " + nights + " nights", known, x.count(8));
            Check.same("count(9) after " + nights + " nights", nights, x.count(9));
            for (int ago = 0; ago < known; ago++) {
                int error = nights - ago;
                night("after " + nights + " nights", x, ago, 300, 300 - error, error, 0);
            }
            unknown("after " + nights + " nights", x, known);
            unknown("after " + nights + " nights", x, known + 1);
            logErrors(x, nights + 1);
        }
    }

    private static void nightsThen() {
        Check.sentence("Promise 9: Returns the nights in the log then");
        CloudBeams x = new CloudBeams();
        for (int nights = 1; nights <= 10; nights++) {
            Check.same("log() number " + nights, Math.min(8, nights), x.log());
        }
        x.undo();
        x.undo();
        x.undo();
        Check.same("log() after three undo()", 8, x.log());
        Check.same("count(9)", 8, x.count(9));
        x.undo();
        Check.same("log() after one more undo()", 8, x.log());
    }

    private static void noneWithoutReading() {
        Check.sentence("a night has a reading (NONE if there was none); NONE for these without a reading, 3: otherwise 0");
        CloudBeams x = new CloudBeams();
        x.log();
        night("of a clear sky", x, 0, NONE, NONE, NONE, 0);
        x.layer(305, 10);
        x.layer(300, 1);
        x.log();
        night("with a reading", x, 0, 300, 305, -5, 1);
        x.turn(0);
        x.log();
        night("of a light that is off", x, 0, NONE, NONE, NONE, 0);
        night("with a reading, one before", x, 1, 300, 305, -5, 1);
        night("of a clear sky, two before", x, 2, NONE, NONE, NONE, 0);
        unknown("of three", x, 3);
        Check.same("count(8)", 3, x.count(8));
        Check.same("count(10)", 1, x.count(10));
    }

    private static void heightOfItsLayer() {
        Check.sentence("Promise 20: 1 the height of its layer: as it was then");
        CloudBeams x = Skies.with(300, 10);
        x.log();
        x.layer(50, 1);
        x.log();
        x.clearThin(100);
        x.layer(302, 10);
        x.set(0, 305);
        night("after its layer went", x, 0, 300, 300, 0, 0);
        night("after its number changed", x, 1, 300, 300, 0, 0);
        x.log();
        night("of the new layer", x, 0, 305, 302, 3, 0);
        night("of the layer before", x, 1, 300, 300, 0, 0);
    }

    private static void logDoesNotKnowSoMany() {
        Check.sentence("Promise 20: NONE if the log does not know so many");
        CloudBeams x = new CloudBeams();
        for (int ago : new int[] {0, 1, 7, 8, MAX}) {
            unknown("of an empty log", x, ago);
        }
        logErrors(x, 1);
        night("of one", x, 0, 300, 299, 1, 0);
        for (int ago : new int[] {1, 2, 7, 8, MAX}) {
            unknown("of one", x, ago);
        }
        logErrors(x, 2, 3, 4, 5, 6, 7);
        night("of seven", x, 6, 300, 299, 1, 0);
        unknown("of seven", x, 7);
        logErrors(x, 8);
        night("of eight", x, 7, 300, 299, 1, 0);
        unknown("of eight", x, 8);
        logErrors(x, 9);
        night("of nine", x, 0, 300, 291, 9, 0);
        night("of nine", x, 7, 300, 298, 2, 0);
        for (int ago : new int[] {8, 9, 1 << 28, 1 << 29, 1 << 30, MAX}) {
            unknown("of nine", x, ago);
        }
    }

    private static void agoIsNegative() {
        Check.sentence("Promise 20: Throws IllegalArgumentException if ago is negative");
        CloudBeams empty = new CloudBeams();
        CloudBeams x = new CloudBeams();
        logErrors(x, 1, 2, 3, 4, 5, 6, 7, 8);
        for (int what = 0; what <= 3; what++) {
            int asked = what;
            for (int ago : new int[] {MIN, -8, -1}) {
                Check.badArgument("night(" + ago + ", " + what + ") of an empty log", () -> empty.night(ago, asked));
                Check.badArgument("night(" + ago + ", " + what + ") of eight", () -> x.night(ago, asked));
            }
        }
    }

    private static void whatOfANight() {
        Check.sentence("Promise 20: Throws IllegalArgumentException if what is not 0 to 3");
        CloudBeams x = new CloudBeams();
        logErrors(x, 1, 2, 3);
        for (int what : new int[] {MIN, -4, -1, 4, MAX}) {
            for (int ago : new int[] {-1, 0, 1, 2, 3, 8, MAX}) {
                Check.badArgument("night(" + ago + ", " + what + ")", () -> x.night(ago, what));
            }
        }
    }

    private static void loggedSoFar() {
        Check.sentence("Promise 21: count: 9 the nights logged so far, 10 the false readings logged so far");
        CloudBeams x = Skies.with(305, 10, 300, 1);
        for (int nights = 1; nights <= 20; nights++) {
            if (nights == 11) {
                x.clear(0);
            }
            x.log();
            Check.same("count(8) after " + nights + " nights", Math.min(8, nights), x.count(8));
            Check.same("count(9) after " + nights + " nights", nights, x.count(9));
            Check.same("count(10) after " + nights + " nights, 10 of them false", Math.min(10, nights), x.count(10));
        }
        x.turn(0);
        x.log();
        Check.same("count(9) after a night without a reading", 21, x.count(9));
        Check.same("count(10) after a night without a reading", 10, x.count(10));
    }

    private static void mean(float due, int... errors) {
        CloudBeams x = new CloudBeams();
        x.set(3, 100);
        logErrors(x, errors);
        Check.sameFloat("meanError() of " + java.util.Arrays.toString(errors), due, x.meanError());
    }

    private static void meanOfSizes() {
        Check.sentence("Promise 25: the sum of these sizes as a float, divided by their number as a float");
        mean(0.0f, 0);
        mean(0.0f, 0, 0, 0);
        mean(7.0f, 7);
        mean(7.0f, -7);
        mean(7.0f, 7, -7);
        mean(0.5f, 0, 1);
        mean(7.0f / 3.0f, 2, 2, 3);
        mean(1.0f / 3.0f, 0, -1, 0);
        mean(29.0f / 7.0f, 1, 2, 3, 4, 5, 6, 8);
    }

    private static void meanWithoutAny() {
        Check.sentence("Promise 25: 0.0f without any");
        CloudBeams x = new CloudBeams();
        Check.sameFloat("meanError() of an empty log", 0.0f, x.meanError());
        for (int nights = 1; nights <= 9; nights++) {
            x.log();
            Check.sameFloat("meanError() of nights without a reading", 0.0f, x.meanError());
        }
    }

    private static void meanOfReadingsAlone() {
        Check.sentence("Promise 25: of the nights in the log that have a reading");
        CloudBeams x = new CloudBeams();
        x.log();
        logErrors(x, 4);
        Check.sameFloat("meanError() after a night without a reading", 4.0f, x.meanError());
        x.clearThin(100);
        x.log();
        logErrors(x, -9);
        Check.sameFloat("meanError() with two such nights", 6.5f, x.meanError());
    }

    private static void meanOfTheLatestEight() {
        Check.sentence("Promise 25: of the nights in the log: the latest 8");
        mean(1.125f, 2, 1, 1, 1, 1, 1, 1, 1);
        mean(1.0f, 9, 1, 1, 1, 1, 1, 1, 1, 1);
        mean(2.0f, 9, 1, 1, 1, 1, 1, 1, 1, 9);
        CloudBeams x = new CloudBeams();
        logErrors(x, 3);
        x.turn(1);
        for (int nights = 1; nights <= 7; nights++) {
            x.log();
            Check.sameFloat("meanError() with the reading in the log", 3.0f, x.meanError());
        }
        x.log();
        Check.sameFloat("meanError() with the reading out of the log", 0.0f, x.meanError());
    }

    private static void greatErrors() {
        Check.sentence("Promise 25: the mean size of the errors, however great");
        CloudBeams x = Skies.clearAir(3000, 10);
        x.set(0, 400);
        x.set(3, 100);
        Skies.aimBoth(x, 1, 0);
        for (int nights = 1; nights <= 8; nights++) {
            x.log();
            Check.sameFloat("meanError() of the error 1000", 1000.0f, x.meanError());
        }
        night("of the error 1000", x, 0, 4000, 3000, 1000, 0);
    }

    public static void main(String[] args) {
        latestEight();
        nightsThen();
        noneWithoutReading();
        heightOfItsLayer();
        logDoesNotKnowSoMany();
        agoIsNegative();
        whatOfANight();
        loggedSoFar();
        meanOfSizes();
        meanWithoutAny();
        meanOfReadingsAlone();
        meanOfTheLatestEight();
        greatErrors();
        Check.end();
    }
}
