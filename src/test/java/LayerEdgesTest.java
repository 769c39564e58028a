/** Boundary cases, a test for each sentence: "Terms: Layers", promises 2 to 4 and the numbers of promise 17. */
public final class LayerEdgesTest {
    private static final int MIN = Integer.MIN_VALUE;
    private static final int MAX = Integer.MAX_VALUE;

    private static void heightRange() {
        Check.sentence("a layer has a height from 50 to 3000");
        for (int height : new int[] {50, 51, 2999, 3000}) {
            CloudBeams x = new CloudBeams();
            Check.same("layer(" + height + ", 10)", 0, x.layer(height, 10));
            Check.layers("with one at " + height, x, height, 10);
        }
        for (int height : new int[] {MIN, -50, 0, 49, 3001, MAX}) {
            CloudBeams x = new CloudBeams();
            Check.badArgument("layer(" + height + ", 10)", () -> x.layer(height, 10));
            Check.layers("after layer(" + height + ", 10)", x);
        }
    }

    private static void thicknessRange() {
        Check.sentence("and a thickness from 1 to 100");
        for (int thickness : new int[] {1, 2, 99, 100}) {
            CloudBeams x = new CloudBeams();
            Check.same("layer(300, " + thickness + ")", 0, x.layer(300, thickness));
            Check.layers("with one of " + thickness, x, 300, thickness);
        }
        for (int thickness : new int[] {MIN, -1, 0, 101, MAX}) {
            CloudBeams x = new CloudBeams();
            Check.badArgument("layer(300, " + thickness + ")", () -> x.layer(300, thickness));
            Check.layers("after layer(300, " + thickness + ")", x);
        }
    }

    private static void atMostSix() {
        Check.sentence("There are at most 6 layers of clouds");
        CloudBeams x = Skies.with(100, 10, 200, 20, 300, 30, 400, 40, 500, 50);
        Check.same("the sixth layer", 5, x.layer(600, 60));
        int[] six = {100, 10, 200, 20, 300, 30, 400, 40, 500, 50, 600, 60};
        for (int height : new int[] {50, 350, 601, 3000}) {
            Check.badState("a seventh layer at " + height, () -> x.layer(height, 1));
            Check.layers("after a seventh at " + height, x, six);
        }
        x.clear(2);
        Check.same("a sixth layer after one went", 2, x.layer(350, 1));
        Check.badState("a seventh layer after that", () -> x.layer(300, 1));
    }

    private static void differentHeights() {
        Check.sentence("a height different from those of all others");
        int[] three = {100, 10, 200, 20, 300, 30};
        CloudBeams x = Skies.with(three);
        for (int height : new int[] {100, 200, 300}) {
            Check.badState("layer(" + height + ", 99)", () -> x.layer(height, 99));
            Check.layers("after layer(" + height + ", 99)", x, three);
        }
        Check.same("a height one below", 0, x.layer(99, 1));
        Check.same("a height one above", 2, x.layer(101, 1));
        Check.same("a height one above the highest", 5, x.layer(301, 1));
        Check.layers("with neighbours", x, 99, 1, 100, 10, 101, 1, 200, 20, 300, 30, 301, 1);
    }

    private static void heightComesAgain() {
        Check.sentence("Throws IllegalStateException if one has this height: no longer, when that one went");
        CloudBeams x = Skies.with(100, 10, 200, 20);
        x.clear(1);
        Check.same("a height that went by clear()", 1, x.layer(200, 21));
        x.clearThin(10);
        Check.same("a height that went by clearThin()", 0, x.layer(100, 11));
        x.undo();
        Check.same("a height that went by undo()", 0, x.layer(100, 12));
        Check.layers("in the end", x, 100, 12, 200, 21);
    }

    /** All orders of coming of six layers; the number is due that tells how many lower ones are there. */
    private static void orderedByHeight() {
        Check.sentence("ordered by their heights, the lowest first");
        for (int code = 0; code < 720; code++) {
            int[] heights = orderOfComing(code);
            CloudBeams x = new CloudBeams();
            for (int i = 0; i < 6; i++) {
                int lower = 0;
                for (int j = 0; j < i; j++) {
                    lower += heights[j] < heights[i] ? 1 : 0;
                }
                int number = x.layer(heights[i], heights[i] - 50);
                Check.same("the number of the layer " + i + " in order " + code, lower, number);
            }
            Check.layers("in order " + code, x, 51, 1, 52, 2, 53, 3, 54, 4, 55, 5, 56, 6);
        }
    }

    private static int[] orderOfComing(int code) {
        int[] heights = {51, 52, 53, 54, 55, 56};
        int rest = code;
        for (int left = 6; left > 1; left--) {
            int taken = rest % left;
            rest /= left;
            int height = heights[taken];
            heights[taken] = heights[left - 1];
            heights[left - 1] = height;
        }
        return heights;
    }

    private static void numbersChange() {
        Check.sentence("the numbers of layers change when a layer comes or goes");
        CloudBeams x = Skies.with(100, 10, 200, 20);
        x.layer(50, 5);
        Check.same("the number 1 after a lower one came", 100, x.layerOf(1, 0));
        Check.same("the number 2 after a lower one came", 200, x.layerOf(2, 0));
        x.layer(3000, 6);
        Check.same("the number 2 after a higher one came", 200, x.layerOf(2, 0));
        x.clear(0);
        Check.same("the number 0 after a lower one went", 100, x.layerOf(0, 0));
        x.clear(2);
        Check.same("the number 1 after a higher one went", 200, x.layerOf(1, 0));
        x.clearThin(10);
        Check.same("the number 0 after a thin one went", 200, x.layerOf(0, 0));
    }

    private static void layersOfNoNumber() {
        Check.sentence("Promise 3: Throws IndexOutOfBoundsException if there is no such layer");
        CloudBeams clear = new CloudBeams();
        for (int layer : new int[] {MIN, -1, 0, 5, 6, MAX}) {
            Check.outOfBounds("clear(" + layer + ") of a clear sky", () -> clear.clear(layer));
        }
        CloudBeams full = Skies.full();
        for (int layer : new int[] {MIN, -1, 6, MAX}) {
            Check.outOfBounds("clear(" + layer + ") of six", () -> full.clear(layer));
        }
        Check.layers("after refused calls", full, 100, 10, 200, 20, 300, 30, 400, 40, 500, 50, 600, 60);
        for (int last = 5; last >= 0; last--) {
            int beyond = last + 1;
            Check.outOfBounds("clear(" + beyond + ") of " + beyond, () -> full.clear(beyond));
            Check.same("clear(" + last + ") of " + beyond, 100 * beyond, full.clear(last));
        }
        Check.outOfBounds("clear(0) after all went", () -> full.clear(0));
    }

    private static void heightOfTheLayerThatWent() {
        Check.sentence("Promise 3: Removes a layer. Returns its height");
        Check.same("clear(0), the lowest height", 50, Skies.with(50, 1).clear(0));
        Check.same("clear(0), the greatest height", 3000, Skies.with(3000, 1).clear(0));
        for (int layer = 0; layer < 6; layer++) {
            CloudBeams x = Skies.full();
            Check.same("clear(" + layer + ")", 100 * (layer + 1), x.clear(layer));
            int[] due = new int[10];
            for (int i = 0; i < 5; i++) {
                due[2 * i] = 100 * (i < layer ? i + 1 : i + 2);
                due[2 * i + 1] = 10 * (i < layer ? i + 1 : i + 2);
            }
            Check.layers("after clear(" + layer + ")", x, due);
        }
    }

    private static void clearThinRange() {
        Check.sentence("Promise 4: thickness: 1 to 100");
        CloudBeams x = Skies.with(100, 1, 200, 100);
        for (int thickness : new int[] {MIN, -1, 0, 101, MAX}) {
            Check.badArgument("clearThin(" + thickness + ")", () -> x.clearThin(thickness));
            Check.layers("after clearThin(" + thickness + ")", x, 100, 1, 200, 100);
        }
        Check.same("clearThin(1)", 1, x.clearThin(1));
        Check.layers("after clearThin(1)", x, 200, 100);
        Check.same("clearThin(99)", 0, x.clearThin(99));
        Check.same("clearThin(100)", 1, x.clearThin(100));
        Check.layers("after clearThin(100)", x);
    }

    private static void atMostSoThick() {
        Check.sentence("Promise 4: Removes all layers that are at most so thick");
        for (int thickness = 9; thickness <= 61; thickness++) {
            CloudBeams x = Skies.full();
            int thin = thickness / 10 > 6 ? 6 : thickness / 10;
            Check.same("clearThin(" + thickness + ")", thin, x.clearThin(thickness));
            Check.same("the layers left", 6 - thin, x.count(0));
            for (int i = 0; i < 6 - thin; i++) {
                Check.same("the thickness left", 10 * (i + thin + 1), x.layerOf(i, 1));
            }
        }
        CloudBeams x = Skies.with(100, 10, 200, 11, 300, 10, 400, 11, 500, 10, 600, 11);
        Check.same("clearThin(10), every second one", 3, x.clearThin(10));
        Check.layers("after every second one went", x, 200, 11, 400, 11, 600, 11);
        x = Skies.with(100, 11, 200, 10, 300, 11, 400, 10, 500, 11, 600, 10);
        Check.same("clearThin(10), every other second one", 3, x.clearThin(10));
        Check.layers("after every other second one went", x, 100, 11, 300, 11, 500, 11);
    }

    private static void howManyAreRemoved() {
        Check.sentence("Promise 4: Returns how many are removed");
        CloudBeams x = new CloudBeams();
        Check.same("clearThin(100) of a clear sky", 0, x.clearThin(100));
        Check.same("clearThin(100) of six", 6, Skies.full().clearThin(100));
        Check.same("clearThin(9) of six", 0, Skies.full().clearThin(9));
        Check.same("clearThin(10) of six", 1, Skies.full().clearThin(10));
    }

    private static void numbersOfALayer() {
        Check.sentence("Promise 17: Throws IndexOutOfBoundsException if there is no such layer");
        CloudBeams clear = new CloudBeams();
        CloudBeams full = Skies.full();
        for (int what = 0; what <= 3; what++) {
            int told = what;
            for (int layer : new int[] {MIN, -1, 0, 5, 6, MAX}) {
                Check.outOfBounds("layerOf(" + layer + ", " + what + ") of a clear sky", () -> clear.layerOf(layer, told));
            }
            for (int layer : new int[] {MIN, -1, 6, MAX}) {
                Check.outOfBounds("layerOf(" + layer + ", " + what + ") of six", () -> full.layerOf(layer, told));
            }
        }
        Check.same("layerOf(0, 0) of six", 100, full.layerOf(0, 0));
        Check.same("layerOf(5, 1) of six", 60, full.layerOf(5, 1));
        full.clear(0);
        Check.same("layerOf(4, 0) of five", 600, full.layerOf(4, 0));
        Check.outOfBounds("layerOf(5, 0) of five", () -> full.layerOf(5, 0));
    }

    private static void whatOfALayer() {
        Check.sentence("Promise 17: Throws IllegalArgumentException if what is not 0 to 3");
        CloudBeams x = Skies.full();
        for (int what : new int[] {MIN, -1, 4, MAX}) {
            Check.badArgument("layerOf(0, " + what + ")", () -> x.layerOf(0, what));
            Check.badArgument("layerOf(5, " + what + ")", () -> x.layerOf(5, what));
        }
        Check.same("layerOf(2, 0)", 300, x.layerOf(2, 0));
        Check.same("layerOf(2, 3)", 1, x.layerOf(2, 3));
    }

    private static void numberOfLayers() {
        Check.sentence("Promise 21: count: 0 the layers");
        CloudBeams x = new CloudBeams();
        for (int layers = 0; layers < 6; layers++) {
            Check.same("count(0)", layers, x.count(0));
            x.layer(100 + layers, 1);
        }
        Check.same("count(0) of a full sky", 6, x.count(0));
        x.clearThin(1);
        Check.same("count(0) of an empty sky", 0, x.count(0));
    }

    public static void main(String[] args) {
        heightRange();
        thicknessRange();
        atMostSix();
        differentHeights();
        heightComesAgain();
        orderedByHeight();
        numbersChange();
        layersOfNoNumber();
        heightOfTheLayerThatWent();
        clearThinRange();
        atMostSoThick();
        howManyAreRemoved();
        numbersOfALayer();
        whatOfALayer();
        numberOfLayers();
        Check.end();
    }
}
