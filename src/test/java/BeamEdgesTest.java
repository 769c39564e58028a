/** Boundary cases of beams and spots, a test for each sentence: "Terms: Light", promises 18 and 24, count 5. */
public final class BeamEdgesTest {
    private static final int MIN = Integer.MIN_VALUE;
    private static final int MAX = Integer.MAX_VALUE;

    /** Of both lights: the strength that comes, the brightness, and the strength that goes on. */
    private static void beam(String when, CloudBeams x, int layer, int comes, int brightness, int goesOn) {
        for (int light = 0; light <= 1; light++) {
            String spot = "spot(" + light + ", " + layer + ", ";
            Check.same(spot + "3) " + when, comes, x.spot(light, layer, 3));
            Check.same(spot + "1) " + when, brightness, x.spot(light, layer, 1));
            Check.same(spot + "4) " + when, goesOn, x.spot(light, layer, 4));
        }
    }

    private static CloudBeams hazy(int haze, int... heightsAndThicknesses) {
        CloudBeams x = Skies.with(heightsAndThicknesses);
        x.set(1, haze);
        return x;
    }

    private static void beginsWith1000() {
        Check.sentence("A beam that is on begins with the strength 1000");
        beam("at 50", hazy(0, 50, 1), 0, 1000, 10, 990);
        beam("at 3000", hazy(0, 3000, 1), 0, 1000, 10, 990);
        CloudBeams x = hazy(0, 50, 1);
        Skies.aimBoth(x, -30, 30);
        beam("of beams aslope", x, 0, 1000, 10, 990);
    }

    private static void losesByHaze() {
        Check.sentence("it loses strength * haze * (difference of heights) / 10000000");
        beam("without haze", hazy(0, 1000, 2), 0, 1000, 20, 980);
        beam("before the first loss", hazy(9, 1000, 2), 0, 1000, 20, 980);
        beam("at the first loss", hazy(10, 1000, 2), 0, 999, 19, 980);
        beam("before the second loss", hazy(19, 1000, 2), 0, 999, 19, 980);
        beam("at the second loss", hazy(20, 1000, 2), 0, 998, 19, 979);
        beam("at the lowest height", hazy(1000, 50, 2), 0, 995, 19, 976);
        beam("at the lowest height, hardly less haze", hazy(999, 50, 2), 0, 996, 19, 977);
        beam("at the greatest height", hazy(1000, 3000, 2), 0, 700, 14, 686);
        beam("at the greatest height, hardly less haze", hazy(999, 3000, 2), 0, 701, 14, 687);
        beam("at the greatest height, hardly any haze", hazy(3, 3000, 2), 0, 1000, 20, 980);
        beam("at the greatest height, little haze", hazy(4, 3000, 2), 0, 999, 19, 980);
    }

    private static void losesFromLayerToLayer() {
        Check.sentence("On the way to the first layer, and from each layer to the next one");
        CloudBeams x = hazy(1000, 1000, 1, 2000, 1, 2001, 1, 2101, 1);
        beam("of the first layer", x, 0, 900, 9, 891);
        beam("of a layer 1000 above", x, 1, 802, 8, 794);
        beam("of a layer 1 above", x, 2, 794, 7, 787);
        beam("of a layer 100 above", x, 3, 780, 7, 773);
        x = hazy(0, 100, 10, 200, 10, 300, 10, 400, 10, 500, 10, 600, 10);
        beam("of the sixth layer without haze", x, 5, 592, 59, 533);
    }

    /** 1000 * 1000 * 2147 is below 2147483647, and 1000 * 1000 * 2148 above it. */
    private static void exactProduct() {
        Check.sentence("the product is computed first, exactly, also beyond 2147483647");
        beam("below it", hazy(1000, 2147, 10), 0, 786, 78, 708);
        beam("beyond it", hazy(1000, 2148, 10), 0, 786, 78, 708);
        beam("beyond it, less haze", hazy(720, 3000, 10), 0, 784, 78, 706);
        beam("at the most", hazy(1000, 3000, 10), 0, 700, 70, 630);
        beam("beyond it between layers", hazy(1000, 50, 1, 3000, 10), 1, 696, 69, 627);
        beam("beyond it above the first layer", hazy(1000, 800, 1, 3000, 10), 1, 711, 71, 640);
        beam("2739999843, hardly less than 274 times the divisor", hazy(953, 50, 1, 2963, 10), 1, 714, 71, 643);
    }

    /** A loss is at most three tenths of a strength, so a beam can't lose more; what it can have is nothing. */
    private static void nothingToLose() {
        Check.sentence("but at most all that it has");
        CloudBeams x = hazy(1000, 50, 100, 3000, 100);
        beam("of the layer that takes all", x, 0, 995, 995, 0);
        beam("of a beam without strength", x, 1, 0, 0, 0);
        x = hazy(1000, 50, 99, 60, 90, 3000, 50);
        beam("of the layer that takes nearly all", x, 0, 995, 985, 10);
        beam("of the next layer", x, 1, 10, 9, 1);
        beam("of a beam with the strength 1", x, 2, 1, 0, 1);
    }

    private static void brightness() {
        Check.sentence("its spot has the brightness strength * thickness / 100; the beam goes on with the rest");
        CloudBeams x = hazy(0, 100, 90, 200, 1, 300, 1, 400, 99, 500, 99, 600, 100);
        beam("90 of 1000", x, 0, 1000, 900, 100);
        beam("1 of 100", x, 1, 100, 1, 99);
        beam("1 of 99", x, 2, 99, 0, 99);
        beam("99 of 99", x, 3, 99, 98, 1);
        beam("99 of 1", x, 4, 1, 0, 1);
        beam("100 of 1", x, 5, 1, 1, 0);
        beam("1 of 1000", hazy(0, 100, 1), 0, 1000, 10, 990);
        beam("100 of 1000", hazy(0, 100, 100), 0, 1000, 1000, 0);
        beam("1 of 999", hazy(10, 1000, 1), 0, 999, 9, 990);
        beam("99 of 999", hazy(10, 1000, 99), 0, 999, 989, 10);
    }

    private static void seen(String when, CloudBeams x, int layer, int least, int due) {
        x.set(2, least);
        Check.same("spot(0, .., 2) " + when + ", least " + least, due, x.spot(0, layer, 2));
        Check.same("spot(1, .., 2) " + when + ", least " + least, due, x.spot(1, layer, 2));
    }

    private static void atLeastSoBright() {
        Check.sentence("A spot is seen if its brightness is at least the setting 2");
        CloudBeams x = hazy(0, 100, 2, 200, 100, 300, 100);
        seen("of the brightness 20", x, 0, 19, 1);
        seen("of the brightness 20", x, 0, 20, 1);
        seen("of the brightness 20", x, 0, 21, 0);
        seen("of the brightness 980", x, 1, 500, 1);
        seen("of the brightness 0", x, 2, 1, 0);
        x = hazy(0, 100, 99, 200, 10, 300, 1);
        seen("of the brightness 1", x, 1, 1, 1);
        seen("of the brightness 1", x, 1, 2, 0);
        seen("of the brightness 0", x, 2, 1, 0);
        x = hazy(0, 100, 50);
        seen("of the brightness 500", x, 0, 500, 1);
        x = hazy(20, 1000, 50);
        seen("of the brightness 499", x, 0, 500, 0);
        seen("of the brightness 499", x, 0, 499, 1);
    }

    private static void seenSpots(int light, int... heightsAndThicknesses) {
        CloudBeams x = hazy(0, heightsAndThicknesses);
        int layers = heightsAndThicknesses.length / 2;
        Check.same("count(5) of " + layers + " layers, both lights", 2 * layers, x.count(5));
        x.turn(light);
        Check.same("count(5) of " + layers + " layers, one light", layers, x.count(5));
        x.set(2, 500);
        Check.same("count(5) of " + layers + " layers, none bright enough", 0, x.count(5));
        x.undo();
        x.turn(1 - light);
        Check.same("count(5) of " + layers + " layers, no light", 0, x.count(5));
    }

    private static void numberOfSeenSpots() {
        Check.sentence("Promise 21: count: 5 the spots that are seen");
        for (int light = 0; light <= 1; light++) {
            seenSpots(light);
            seenSpots(light, 50, 2);
            seenSpots(light, 50, 2, 51, 10, 52, 10, 53, 10, 54, 10);
            seenSpots(light, 50, 2, 51, 10, 52, 10, 53, 10, 54, 10, 3000, 10);
        }
        CloudBeams x = hazy(0, 50, 2, 51, 3, 52, 2, 53, 4);
        Check.same("count(5), one of four layers too dark", 6, x.count(5));
    }

    /** The counts, the pairs and clearEnough() are held to the spots that they are of. */
    private static void seenInHaze() {
        Check.sentence("A spot is seen: for the counts, the pairs and the greatest haze as for the spot itself");
        for (int haze = 0; haze <= 1000; haze += 50) {
            for (int least = 10; least <= 60; least += 10) {
                CloudBeams x = hazy(haze, 500, 3, 1000, 4, 1001, 5, 2000, 6, 2900, 7, 3000, 8);
                x.set(2, least);
                int seen = 0;
                for (int layer = 0; layer < 6; layer++) {
                    int isSeen = x.spot(0, layer, 2);
                    String when = " of layer " + layer + ", haze " + haze + ", least " + least;
                    Check.same("a pair" + when, isSeen, x.layerOf(layer, 2) == CloudBeams.NONE ? 0 : 1);
                    seen += isSeen;
                }
                Check.same("count(5), haze " + haze + ", least " + least, 2 * seen, x.count(5));
                Check.same("count(6), haze " + haze + ", least " + least, seen, x.count(6));
            }
        }
    }

    private static void offHasNoSpots() {
        Check.sentence("Promise 18: NONE if the light is off (A beam that is off has no spots)");
        for (int light = 0; light <= 1; light++) {
            CloudBeams x = Skies.full();
            x.turn(light);
            for (int layer = 0; layer < 6; layer++) {
                for (int what = 0; what <= 4; what++) {
                    String asked = layer + ", " + what + ")";
                    Check.same("spot(off, " + asked, CloudBeams.NONE, x.spot(light, layer, what));
                    int due = Skies.full().spot(1 - light, layer, what);
                    Check.same("spot(on, " + asked, due, x.spot(1 - light, layer, what));
                }
            }
            x.turn(light);
            Check.same("spot(on again, 0, 3)", 999, x.spot(light, 0, 3));
        }
    }

    private static void noSuchSpot() {
        Check.sentence("Promise 18: Throws IndexOutOfBoundsException if there is no such light or layer");
        CloudBeams clear = new CloudBeams();
        CloudBeams full = Skies.full();
        for (int what = 0; what <= 4; what++) {
            int asked = what;
            for (int wrong : new int[] {MIN, -1, 6, 7, MAX}) {
                Check.outOfBounds("spot(" + wrong + ", 0, " + what + ")", () -> full.spot(wrong, 0, asked));
                Check.outOfBounds("spot(0, " + wrong + ", " + what + ")", () -> full.spot(0, wrong, asked));
                Check.outOfBounds("spot(1, " + wrong + ", " + what + ")", () -> full.spot(1, wrong, asked));
            }
            Check.outOfBounds("spot(2, 0, " + what + ")", () -> full.spot(2, 0, asked));
            Check.outOfBounds("spot(0, 0, " + what + ") of a clear sky", () -> clear.spot(0, 0, asked));
        }
        full.turn(0);
        Check.same("spot(0, 5, 0) of a light that is off", CloudBeams.NONE, full.spot(0, 5, 0));
        Check.outOfBounds("spot(0, 6, 0) of a light that is off", () -> full.spot(0, 6, 0));
        Check.same("spot(1, 5, 0)", 0, full.spot(1, 5, 0));
    }

    private static void whatOfASpot() {
        Check.sentence("Promise 18: Throws IllegalArgumentException if what is not 0 to 4");
        CloudBeams x = Skies.full();
        x.turn(1);
        for (int what : new int[] {MIN, -1, 5, 6, MAX}) {
            Check.badArgument("spot(0, 0, " + what + ")", () -> x.spot(0, 0, what));
            Check.badArgument("spot(1, 5, " + what + ") of a light that is off", () -> x.spot(1, 5, what));
        }
        Check.same("spot(0, 0, 0)", 50, x.spot(0, 0, 0));
        Check.same("spot(0, 0, 4)", 900, x.spot(0, 0, 4));
    }

    private static void clearEnough(String when, CloudBeams x, int due) {
        Check.same("clearEnough() " + when, due, x.clearEnough());
        int before = x.count(14);
        int without = seenWith(x, 0);
        Check.same("spots seen with the haze " + due + " " + when, without, seenWith(x, due));
        if (due < 1000) {
            int more = seenWith(x, due + 1);
            Check.same("fewer with the haze " + (due + 1) + " " + when, 1, more < without ? 1 : 0);
        }
        x.set(1, before);
    }

    private static int seenWith(CloudBeams x, int haze) {
        x.set(1, haze);
        return x.count(5);
    }

    private static void greatestHaze() {
        Check.sentence("Promise 24: the greatest haze with which as many spots would be seen as without haze");
        clearEnough("of one that needs the strength 1000 at 3000", Skies.with(3000, 2), 3);
        clearEnough("of one that needs the strength 1000 at 50", Skies.with(50, 2), 199);
        clearEnough("of the second of two", Skies.with(50, 50, 3000, 4), 6);
        clearEnough("of the highest of four", Skies.with(100, 10, 200, 10, 2900, 10, 3000, 3), 299);
        CloudBeams x = Skies.with(1000, 2);
        x.set(2, 18);
        clearEnough("of one that just bears the greatest haze", x, 1000);
        x.set(2, 19);
        clearEnough("of one that needs the strength 950", x, 509);
    }

    private static void nothingToSee() {
        Check.sentence("Promise 24: Returns the haze, 0 to 1000");
        clearEnough("of a clear sky", new CloudBeams(), 1000);
        CloudBeams x = Skies.with(3000, 2);
        x.set(2, 21);
        clearEnough("of a spot that is never seen", x, 1000);
        x.set(2, 20);
        x.turn(0);
        clearEnough("with one light", x, 3);
        x.turn(1);
        clearEnough("without lights", x, 1000);
        x = Skies.with(50, 100);
        x.set(2, 500);
        clearEnough("of a spot that haze never hides", x, 1000);
    }

    private static void hazeOfNow() {
        Check.sentence("Promise 24: whatever the haze is now; nothing changes");
        for (int haze : new int[] {0, 3, 4, 1000}) {
            CloudBeams x = hazy(haze, 3000, 2);
            Check.same("clearEnough() in the haze " + haze, 3, x.clearEnough());
            Check.same("the haze", haze, x.count(14));
        }
    }

    public static void main(String[] args) {
        beginsWith1000();
        losesByHaze();
        losesFromLayerToLayer();
        exactProduct();
        nothingToLose();
        brightness();
        atLeastSoBright();
        numberOfSeenSpots();
        seenInHaze();
        offHasNoSpots();
        noSuchSpot();
        whatOfASpot();
        greatestHaze();
        nothingToSee();
        hazeOfNow();
        Check.end();
    }
}
