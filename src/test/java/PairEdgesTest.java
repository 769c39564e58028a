/** Boundary cases, a test for each sentence: "Terms: Pairs", promises 17, 19 and 23, counts 4, 6 and 7. */
public final class PairEdgesTest {
    private static final int MIN = Integer.MIN_VALUE;
    private static final int MAX = Integer.MAX_VALUE;
    private static final int NONE = CloudBeams.NONE;

    /** Slopes 1 and 0 and the base 50: the beams meet at 500, and places are the same from 500 to 509. */
    private static CloudBeams flat(int... heightsAndThicknesses) {
        CloudBeams x = Skies.clearAir(heightsAndThicknesses);
        Skies.aimBoth(x, 1, 0);
        x.set(0, 50);
        x.set(2, 1);
        return x;
    }

    private static void reading(String when, CloudBeams x, int... due) {
        for (int what = 0; what <= 3; what++) {
            Check.same("reading(" + what + ") " + when, due[what], x.reading(what));
        }
    }

    private static void noReading(String when, CloudBeams x) {
        reading(when, x, NONE, NONE, NONE, NONE);
    }

    private static void pair(String when, CloudBeams x, int layer, int distance, int close) {
        Check.same("layerOf(" + layer + ", 2) " + when, distance, x.layerOf(layer, 2));
        Check.same("layerOf(" + layer + ", 3) " + when, close, x.layerOf(layer, 3));
    }

    private static void bothSeen() {
        Check.sentence("A pair is the two spots on the same layer, if both are seen");
        for (int light = 0; light <= 1; light++) {
            CloudBeams x = Skies.with(300, 10);
            pair("of two lights", x, 0, 0, 1);
            x.turn(light);
            pair("of one light", x, 0, NONE, 0);
            Check.same("count(6) of one light", 0, x.count(6));
            x.turn(1 - light);
            pair("of no light", x, 0, NONE, 0);
            x.turn(light);
            pair("of the other light", x, 0, NONE, 0);
            x.turn(1 - light);
            pair("of two lights again", x, 0, 0, 1);
            Check.same("count(6) of two lights", 1, x.count(6));
        }
        CloudBeams x = Skies.clearAir(300, 2);
        pair("with the brightness that it needs", x, 0, 0, 1);
        x.set(2, 21);
        pair("too dark by 1", x, 0, NONE, 0);
        Check.same("count(6), too dark", 0, x.count(6));
        Check.same("count(7), too dark", 0, x.count(7));
    }

    private static void distance() {
        Check.sentence("Its distance is the place of the spot of the light 1 minus that of the spot of the light 0");
        CloudBeams x = Skies.clearAir(299, 10, 300, 10, 301, 10, 3000, 10);
        pair("below the meeting height", x, 0, 2, 1);
        pair("at the meeting height", x, 1, 0, 1);
        pair("above the meeting height", x, 2, 0, 1);
        pair("far above it", x, 3, -2700, 0);
        x.set(0, 1000);
        Skies.aimBoth(x, -30, 30);
        pair("of beams that part", x, 3, 19000, 0);
        x.set(0, 50);
        Skies.aimBoth(x, 30, -30);
        pair("of beams that met", x, 3, -17950, 0);
        Skies.aimBoth(x, -30, -30);
        pair("of beams side by side", x, 3, 50, 0);
    }

    private static void atMostTheCloseness() {
        Check.sentence("The pair is close if the size of its distance is at most the setting 3");
        CloudBeams x = Skies.clearAir(200, 10, 290, 10, 300, 10, 310, 10, 400, 10);
        int[] distance = {100, 10, 0, -10, -100};
        for (int closeness : new int[] {0, 1, 9, 10, 11, 99, 100}) {
            x.set(3, closeness);
            int close = 0;
            for (int layer = 0; layer < 5; layer++) {
                int isClose = Math.abs(distance[layer]) <= closeness ? 1 : 0;
                pair("with the closeness " + closeness, x, layer, distance[layer], isClose);
                close += isClose;
            }
            Check.same("count(7) with the closeness " + closeness, close, x.count(7));
        }
        x = Skies.clearAir(199, 10, 401, 10);
        x.set(3, 100);
        pair("with the distance 102", x, 0, 102, 0);
        pair("with the distance -100 by rounding", x, 1, -100, 1);
        x.clear(1);
        x.layer(402, 10);
        pair("with the distance -102", x, 1, -102, 0);
    }

    private static void numbersOfPairs() {
        Check.sentence("Promise 21: count: 6 the pairs, 7 the close pairs");
        CloudBeams x = flat();
        for (int layers = 0; layers <= 6; layers++) {
            Check.same("count(6) of " + layers + " layers", layers, x.count(6));
            Check.same("count(7) of " + layers + " layers", layers, x.count(7));
            if (layers < 6) {
                x.layer(500 + layers, 10);
            }
        }
        x.set(0, 1000);
        Check.same("count(6), none close", 6, x.count(6));
        Check.same("count(7), none close", 0, x.count(7));
    }

    private static void ifTheyMeetAndAPairIsClose() {
        Check.sentence("A reading is the height at which the beams meet, if they meet and there is a close pair");
        CloudBeams x = new CloudBeams();
        noReading("of a clear sky", x);
        x.layer(300, 10);
        reading("of beams that meet, with a close pair", x, 300, 0, 0, 0);
        x.layer(50, 10);
        x.clear(1);
        noReading("of beams that meet, without a close pair", x);
        x.set(0, 50);
        x.set(3, 100);
        Skies.aimBoth(x, 1, 0);
        reading("of beams that hardly meet", x, 500, 0, 450, 0);
        Skies.aimBoth(x, 0, 0);
        Check.same("a close pair of beams side by side", 1, x.count(7));
        noReading("of beams side by side", x);
        Skies.aimBoth(x, -1, 0);
        Check.same("a close pair of beams that part", 1, x.count(7));
        noReading("of beams that part", x);
    }

    private static void readingAtTheCloseness() {
        Check.sentence("a close pair: at most the setting 3");
        for (int closeness : new int[] {0, 1, 10, 99, 100}) {
            CloudBeams x = Skies.clearAir(300 - closeness, 10);
            int distance = x.layerOf(0, 2);
            x.set(3, distance);
            reading("with the distance " + distance, x, 300, 0, closeness, 0);
            if (distance > 0) {
                x.set(3, distance - 1);
                noReading("with the distance " + distance + ", farther by 1", x);
            }
        }
    }

    private static void readingNeedsLight() {
        Check.sentence("a close pair: if both are seen, and so without a light no reading");
        for (int light = 0; light <= 1; light++) {
            CloudBeams x = Skies.with(300, 10);
            x.turn(light);
            noReading("with one light", x);
            x.turn(light);
            reading("with both lights", x, 300, 0, 0, 0);
        }
        CloudBeams x = Skies.clearAir(300, 2);
        reading("of spots that are just seen", x, 300, 0, 0, 0);
        x.set(2, 21);
        noReading("of spots that are not seen", x);
    }

    private static void leastDistance() {
        Check.sentence("Its layer is that of the close pair whose distance has the least size");
        CloudBeams x = Skies.clearAir(294, 10, 300, 10, 306, 10);
        reading("of 6, 0 and -6", x, 300, 1, 0, 0);
        x.clear(1);
        x.layer(304, 10);
        reading("of 6, -4 and -6", x, 300, 1, -4, 0);
        x.clear(1);
        x.layer(296, 10);
        reading("of 6, 4 and -6", x, 300, 1, 4, 0);
        x = Skies.clearAir(100, 10, 200, 10, 240, 10, 260, 10, 280, 10, 300, 10);
        reading("of six, the highest one", x, 300, 5, 0, 0);
        x = Skies.clearAir(300, 10, 320, 10, 340, 10, 360, 10, 380, 10, 400, 10);
        reading("of six, the lowest one", x, 300, 0, 0, 0);
    }

    private static void closePairsAlone() {
        Check.sentence("Its layer is that of the close pair: no other one counts, however near it is");
        CloudBeams x = Skies.clearAir(291, 10, 300, 1);
        reading("with a nearer layer too dark", x, 300, 0, 9, 1);
        x.set(3, 7);
        noReading("with a layer too far, and a nearer one too dark", x);
        x.set(2, 9);
        reading("with a nearer layer that is seen", x, 300, 1, 0, 0);
    }

    private static void lowestLayer() {
        Check.sentence("of several the lowest layer");
        reading("of 6 and -6", Skies.clearAir(294, 10, 306, 10), 300, 0, 6, 0);
        reading("of -6 that came first, and 6", Skies.clearAir(306, 10, 294, 10), 300, 0, 6, 0);
        reading("of two with the distance 0", flat(503, 10, 500, 10), 500, 0, 0, 0);
        reading("of two with the distance 0 above it", flat(504, 10, 503, 10), 500, 0, -3, 0);
        reading("of six with the distance 0", flat(506, 9, 505, 9, 504, 9, 503, 9, 502, 9, 501, 9), 500, 0, -1, 0);
        reading("of 10, 10, -10 and -10", Skies.clearAir(290, 9, 291, 9, 310, 9, 311, 9), 300, 0, 10, 1);
    }

    private static void error() {
        Check.sentence("Its error is the reading minus the height of its layer");
        reading("above its layer", Skies.clearAir(299, 10), 300, 0, 1, 0);
        reading("at its layer", Skies.clearAir(300, 10), 300, 0, 0, 0);
        reading("below its layer", Skies.clearAir(301, 10), 300, 0, -1, 0);
        CloudBeams x = Skies.clearAir(50, 10);
        x.set(0, 50);
        x.set(3, 100);
        Skies.aimBoth(x, 30, 0);
        reading("of the least height, error -34", x, 16, 0, -34, 0);
        x = Skies.clearAir(3000, 10);
        x.set(0, 400);
        x.set(3, 100);
        Skies.aimBoth(x, 1, 0);
        reading("of the greatest height, error 1000", x, 4000, 0, 1000, 0);
    }

    private static void nearerLayer() {
        Check.sentence("The reading is false if a layer that is not its layer has a height that is nearer to the reading");
        reading("with its layer alone", Skies.clearAir(305, 10), 300, 0, -5, 0);
        reading("with one as near below", Skies.clearAir(295, 1, 305, 10), 300, 1, -5, 0);
        reading("with one nearer by 1 below", Skies.clearAir(296, 1, 305, 10), 300, 1, -5, 1);
        reading("with one farther by 1 below", Skies.clearAir(294, 1, 305, 10), 300, 1, -5, 0);
        reading("with one nearer by 1 above", Skies.clearAir(304, 1, 305, 10), 300, 1, -5, 1);
        reading("with one as near above", Skies.clearAir(295, 10, 305, 1), 300, 0, 5, 0);
        reading("with one nearer above", Skies.clearAir(295, 10, 304, 1), 300, 0, 5, 1);
        reading("with one farther above", Skies.clearAir(295, 10, 306, 1), 300, 0, 5, 0);
        reading("with one at the reading", Skies.clearAir(300, 1, 301, 10), 300, 1, -1, 1);
        reading("at its layer, with neighbours", Skies.clearAir(299, 1, 300, 10, 301, 1), 300, 1, 0, 0);
        reading("with a nearer one that is seen", flat(495, 10, 509, 10), 500, 1, -9, 1);
        CloudBeams six = Skies.clearAir(305, 10, 50, 1, 60, 1, 400, 1, 500, 1, 300, 1);
        reading("with the nearest of six at last", six, 300, 3, -5, 1);
    }

    private static void whatOfAReading() {
        Check.sentence("Promise 19: Throws IllegalArgumentException if what is not 0 to 3");
        CloudBeams clear = new CloudBeams();
        CloudBeams x = Skies.with(300, 10);
        for (int what : new int[] {MIN, -1, 4, MAX}) {
            Check.badArgument("reading(" + what + ") of a clear sky", () -> clear.reading(what));
            Check.badArgument("reading(" + what + ")", () -> x.reading(what));
        }
        Check.same("reading(0)", 300, x.reading(0));
        Check.same("reading(3)", 0, x.reading(3));
    }

    private static void numberOfTheLayer() {
        Check.sentence("Promise 19: 1 the number of its layer");
        CloudBeams x = Skies.with(300, 10);
        Check.same("reading(1) of the only layer", 0, x.reading(1));
        for (int lower = 1; lower <= 5; lower++) {
            x.layer(50 + lower, 1);
            Check.same("reading(1) above " + lower + " layers", lower, x.reading(1));
        }
        x.clear(0);
        Check.same("reading(1) after a lower one went", 4, x.reading(1));
    }

    private static void scans(String when, CloudBeams x, int light, int... due) {
        for (int what = 0; what <= 3; what++) {
            Check.same("ifScanned(" + light + ", " + what + ") " + when, due[what], x.ifScanned(light, what));
        }
    }

    /** At the height 50 a step of the slope is 5, so with the base 50 the slopes 1 to 30 above the other's are close. */
    private static CloudBeams low(int slope0, int slope1) {
        CloudBeams x = Skies.clearAir(50, 10);
        x.set(0, 50);
        x.set(3, 100);
        Skies.aimBoth(x, slope0, slope1);
        return x;
    }

    private static void noSlope() {
        Check.sentence("Promise 23: 2 the lowest of these slopes plus 100, 3 the highest one (NONE if there is none)");
        for (int light = 0; light <= 1; light++) {
            scans("of a clear sky", new CloudBeams(), light, 0, 0, NONE, NONE);
            CloudBeams x = low(5, -5);
            x.turn(1 - light);
            scans("with the other light off", x, light, 0, 0, NONE, NONE);
            x.turn(light);
            scans("with both lights off", x, light, 0, 0, NONE, NONE);
            x.turn(1 - light);
            scans("with this light off", x, light, 0, 0, NONE, NONE);
        }
        scans("of light 0 below light 1's steepest", low(0, 30), 0, 0, 0, NONE, NONE);
        scans("of light 1 above light 0's steepest", low(-30, 0), 1, 0, 0, NONE, NONE);
        CloudBeams x = low(5, -5);
        x.set(0, 1000);
        scans("of light 0, out of reach", x, 0, 0, 0, NONE, NONE);
        scans("of light 1, out of reach", x, 1, 0, 0, NONE, NONE);
    }

    private static void fewAndManySlopes() {
        Check.sentence("Promise 23: 0 how many there are: from the slope next to the other one to the end of the range");
        scans("of light 0 beside light 1 at -30", low(0, -30), 0, 30, 0, 71, 100);
        scans("of light 0 beside light 1 at 0", low(0, 0), 0, 30, 0, 101, 130);
        scans("of light 0 beside light 1 at 1", low(0, 1), 0, 29, 0, 102, 130);
        scans("of light 0 beside light 1 at 29", low(0, 29), 0, 1, 0, 130, 130);
        scans("of light 1 beside light 0 at 30", low(30, 0), 1, 30, 0, 100, 129);
        scans("of light 1 beside light 0 at 0", low(0, 0), 1, 30, 0, 70, 99);
        scans("of light 1 beside light 0 at -1", low(-1, 0), 1, 29, 0, 70, 98);
        scans("of light 1 beside light 0 at -29", low(-29, 0), 1, 1, 0, 70, 70);
    }

    private static void slopesOfNow() {
        Check.sentence("Promise 23: all else as it is: the light's slope of now does not count, the other's does");
        for (int slope : new int[] {-30, 0, 30}) {
            scans("of light 0 at " + slope, low(slope, 0), 0, 30, 0, 101, 130);
            scans("of light 1 at " + slope, low(0, slope), 1, 30, 0, 70, 99);
        }
        CloudBeams x = low(7, -8);
        String before = Answers.of(x);
        scans("of light 0", x, 0, 30, 0, 93, 122);
        scans("of light 1", x, 1, 30, 0, 77, 106);
        Check.sameText("all answers after ifScanned()", before, Answers.of(x));
    }

    /** The slopes 9 to 11 above the other's give the readings 333, 300 and 272; a thin layer there makes one false. */
    private static void falseSlopes() {
        Check.sentence("Promise 23: 1 how many of these would be false");
        CloudBeams x = Skies.clearAir(300, 10);
        x.set(3, 30);
        scans("of light 0, none false", x, 0, 3, 0, 104, 106);
        scans("of light 1, none false", x, 1, 3, 0, 94, 96);
        x.layer(272, 1);
        scans("of light 0, one false", x, 0, 3, 1, 104, 106);
        scans("of light 1, one false", x, 1, 3, 1, 94, 96);
        x.layer(333, 1);
        scans("of light 0, two false", x, 0, 3, 2, 104, 106);
        scans("of light 1, two false", x, 1, 3, 2, 94, 96);
    }

    private static void noSuchScan() {
        Check.sentence("Promise 23: Throws IndexOutOfBoundsException if there is no such light; what: 0 to 3");
        CloudBeams x = Skies.with(300, 10);
        for (int what = 0; what <= 3; what++) {
            int asked = what;
            for (int light : new int[] {MIN, -1, 2, MAX}) {
                Check.outOfBounds("ifScanned(" + light + ", " + what + ")", () -> x.ifScanned(light, asked));
            }
        }
        for (int what : new int[] {MIN, -1, 4, MAX}) {
            Check.badArgument("ifScanned(0, " + what + ")", () -> x.ifScanned(0, what));
            Check.badArgument("ifScanned(1, " + what + ")", () -> x.ifScanned(1, what));
        }
    }

    public static void main(String[] args) {
        bothSeen();
        distance();
        atMostTheCloseness();
        numbersOfPairs();
        ifTheyMeetAndAPairIsClose();
        readingAtTheCloseness();
        readingNeedsLight();
        leastDistance();
        closePairsAlone();
        lowestLayer();
        error();
        nearerLayer();
        whatOfAReading();
        numberOfTheLayer();
        noSlope();
        fewAndManySlopes();
        slopesOfNow();
        falseSlopes();
        noSuchScan();
        Check.end();
    }
}
