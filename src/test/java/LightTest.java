/** Promises 17, 18, 24 and the counts 5 to 7 of promise 21: spots, their brightness, pairs, haze. */
public final class LightTest {
    private static void sameSpot(CloudBeams x, int light, int layer, int... due) {
        for (int what = 0; what <= 4; what++) {
            Check.same("spot(" + light + ", " + layer + ", " + what + ")", due[what], x.spot(light, layer, what));
        }
    }

    private static CloudBeams threeLayers() {
        CloudBeams x = new CloudBeams();
        x.layer(100, 5);
        x.layer(300, 20);
        x.layer(500, 50);
        return x;
    }

    private static void spots() {
        CloudBeams x = threeLayers();
        sameSpot(x, 0, 0, 50, 49, 1, 999, 950);
        sameSpot(x, 1, 0, 250, 49, 1, 999, 950);
        sameSpot(x, 0, 1, 150, 189, 1, 949, 760);
        sameSpot(x, 0, 2, 250, 379, 1, 759, 380);
        sameSpot(x, 1, 2, 50, 379, 1, 759, 380);
        x.set(2, 189);
        Check.same("a spot with the least brightness is seen", 1, x.spot(0, 1, 2));
        x.set(2, 190);
        Check.same("a spot below the least brightness", 0, x.spot(0, 1, 2));
        Check.same("the spots that are seen", 2, x.count(5));
    }

    private static void placesRoundTowardZero() {
        CloudBeams x = new CloudBeams();
        x.layer(59, 5);
        x.aim(0, -3);
        x.aim(1, -3);
        Check.same("the place of 0 - 177 / 10", -17, x.spot(0, 0, 0));
        Check.same("the place of 300 - 177 / 10", 283, x.spot(1, 0, 0));
        x.aim(0, 3);
        Check.same("the place of 0 + 177 / 10", 17, x.spot(0, 0, 0));
    }

    private static void strongHaze() {
        CloudBeams x = new CloudBeams();
        x.layer(3000, 100);
        x.set(1, 1000);
        Check.same("a loss beyond 2147483647 before the division", 700, x.spot(0, 0, 3));
        Check.same("a thickness of 100 takes all", 0, x.spot(0, 0, 4));
        x.layer(50, 100);
        Check.same("no strength is left", 0, x.spot(1, 1, 3));
        Check.same("no brightness is left", 0, x.spot(1, 1, 1));
        Check.same("a spot without brightness is not seen", 0, x.spot(1, 1, 2));
    }

    private static void lightOff() {
        CloudBeams x = threeLayers();
        x.turn(0);
        for (int what = 0; what <= 4; what++) {
            Check.same("spot(0, 0, " + what + ") of a light that is off", CloudBeams.NONE, x.spot(0, 0, what));
        }
        Check.same("spot(1, 0, 0) of the other light", 250, x.spot(1, 0, 0));
        Check.same("spots seen with one light", 3, x.count(5));
        Check.same("pairs with one light", 0, x.count(6));
        Check.same("close pairs with one light", 0, x.count(7));
        Check.same("a distance with one light", CloudBeams.NONE, x.layerOf(1, 2));
        Check.same("a close pair with one light", 0, x.layerOf(1, 3));
        Check.same("a reading with one light", CloudBeams.NONE, x.reading(0));
        x.turn(1);
        Check.same("spots seen without lights", 0, x.count(5));
        Check.same("clearEnough() without lights", 1000, x.clearEnough());
    }

    private static void spotWrong() {
        CloudBeams x = threeLayers();
        for (int wrong : new int[] {-1, 5, Integer.MIN_VALUE, Integer.MAX_VALUE}) {
            Check.badArgument("spot(0, 0, " + wrong + ")", () -> x.spot(0, 0, wrong));
            Check.outOfBounds("spot(2, 0, " + wrong + ")", () -> x.spot(2, 0, wrong));
            Check.outOfBounds("spot(0, 3, " + wrong + ")", () -> x.spot(0, 3, wrong));
            Check.outOfBounds("spot(" + wrong + ", 0, 0)", () -> x.spot(wrong, 0, 0));
            Check.outOfBounds("spot(0, " + wrong + ", 0)", () -> x.spot(0, wrong, 0));
        }
        x.turn(0);
        Check.badArgument("spot(0, 0, 5) of a light that is off", () -> x.spot(0, 0, 5));
        for (int wrong : new int[] {-1, 4, Integer.MIN_VALUE, Integer.MAX_VALUE}) {
            Check.badArgument("layerOf(0, " + wrong + ")", () -> x.layerOf(0, wrong));
            Check.outOfBounds("layerOf(3, " + wrong + ")", () -> x.layerOf(3, wrong));
            Check.outOfBounds("layerOf(-1, " + wrong + ")", () -> x.layerOf(-1, wrong));
        }
        Check.outOfBounds("layerOf(MIN, 0)", () -> x.layerOf(Integer.MIN_VALUE, 0));
        Check.outOfBounds("layerOf(MAX, 0)", () -> x.layerOf(Integer.MAX_VALUE, 0));
    }

    private static void pairs() {
        CloudBeams x = threeLayers();
        Check.same("the distance below the meeting height", 200, x.layerOf(0, 2));
        Check.same("the distance at the meeting height", 0, x.layerOf(1, 2));
        Check.same("the distance above the meeting height", -200, x.layerOf(2, 2));
        Check.same("the pairs", 3, x.count(6));
        Check.same("the close pairs", 1, x.count(7));
        Check.same("a far pair", 0, x.layerOf(0, 3));
        Check.same("a close pair", 1, x.layerOf(1, 3));
        x.set(2, 50);
        Check.same("the distance of spots that are not seen", CloudBeams.NONE, x.layerOf(0, 2));
        Check.same("the pairs that are seen", 2, x.count(6));
        x.layer(310, 60);
        Check.same("the distance -10", -10, x.layerOf(2, 2));
        Check.same("a pair as far as the closeness", 1, x.layerOf(2, 3));
        x.set(3, 9);
        Check.same("a pair farther than the closeness", 0, x.layerOf(2, 3));
        x.set(3, 0);
        Check.same("the closeness 0", 1, x.count(7));
    }

    private static void clearEnough() {
        CloudBeams x = new CloudBeams();
        x.layer(1000, 2);
        Check.same("clearEnough(): the brightness 20 at the strength 1000 alone", 9, haze(x, 9));
        x.set(2, 19);
        Check.same("clearEnough(): the brightness 19 from the strength 950", 509, x.clearEnough());
        x.set(2, 21);
        Check.same("clearEnough(): nothing is seen even without haze", 1000, x.clearEnough());
        x.set(2, 1);
        Check.same("clearEnough(): haze never hides the spot", 1000, x.clearEnough());
        Check.same("the haze stays", 100, x.count(14));
    }

    /** Without loss up to the haze 9: 1000 * 9 * 1000 / 10000000 is 0; the haze 10 takes 1. */
    private static int haze(CloudBeams x, int due) {
        x.set(1, due);
        Check.same("the strength with the haze " + due, 1000, x.spot(0, 0, 3));
        x.set(1, due + 1);
        Check.same("the strength with the haze " + (due + 1), 999, x.spot(0, 0, 3));
        x.set(1, 100);
        return x.clearEnough();
    }

    private static void noHazeAtAll() {
        CloudBeams x = new CloudBeams();
        x.layer(3000, 2);
        x.turn(1);
        Check.same("clearEnough() at the height 3000", 3, x.clearEnough());
    }

    public static void main(String[] args) {
        spots();
        placesRoundTowardZero();
        strongHaze();
        lightOff();
        spotWrong();
        pairs();
        clearEnough();
        noHazeAtAll();
        Check.end();
    }
}
