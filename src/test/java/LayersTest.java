/** Promises 2 to 4: layer, clear, clearThin; and the plain numbers of promise 17. */
public final class LayersTest {
    private static void layer() {
        CloudBeams x = new CloudBeams();
        Check.same("layer(300, 20)", 0, x.layer(300, 20));
        Check.same("layer(500, 50)", 1, x.layer(500, 50));
        Check.same("layer(100, 5)", 0, x.layer(100, 5));
        Check.same("layer(400, 7)", 2, x.layer(400, 7));
        Check.same("layer(50, 1)", 0, x.layer(50, 1));
        Check.layers("after five came", x, 50, 1, 100, 5, 300, 20, 400, 7, 500, 50);
        Check.badState("a height that is there", () -> x.layer(400, 8));
        Check.badArgument("a height that is there, a thickness out of range", () -> x.layer(400, 101));
        Check.same("layer(3000, 100)", 5, x.layer(3000, 100));
        Check.layers("after six came", x, 50, 1, 100, 5, 300, 20, 400, 7, 500, 50, 3000, 100);
        Check.badState("a seventh layer", () -> x.layer(51, 1));
        Check.badArgument("a seventh layer, its height out of range", () -> x.layer(49, 1));
        Check.same("the saved states", 6, x.count(11));
        Check.layers("after refused calls", x, 50, 1, 100, 5, 300, 20, 400, 7, 500, 50, 3000, 100);
    }

    private static void layerOutOfRange() {
        CloudBeams x = new CloudBeams();
        int[][] wrong = {{49, 1}, {3001, 1}, {50, 0}, {50, 101}, {-50, 1}, {50, -1},
            {Integer.MIN_VALUE, 1}, {Integer.MAX_VALUE, 1}, {50, Integer.MIN_VALUE}, {50, Integer.MAX_VALUE}};
        for (int[] w : wrong) {
            Check.badArgument("layer(" + w[0] + ", " + w[1] + ")", () -> x.layer(w[0], w[1]));
        }
        Check.sameText("the state after refused calls", Check.stateOf(new CloudBeams()), Check.stateOf(x));
        Check.same("the saved states", 0, x.count(11));
    }

    private static void clear() {
        CloudBeams x = new CloudBeams();
        Check.outOfBounds("clear(0) of a clear sky", () -> x.clear(0));
        x.layer(100, 10);
        x.layer(200, 20);
        x.layer(300, 30);
        x.layer(400, 40);
        Check.same("clear(1)", 200, x.clear(1));
        Check.layers("after clear(1)", x, 100, 10, 300, 30, 400, 40);
        Check.outOfBounds("clear(3)", () -> x.clear(3));
        Check.outOfBounds("clear(-1)", () -> x.clear(-1));
        Check.outOfBounds("clear(MIN)", () -> x.clear(Integer.MIN_VALUE));
        Check.outOfBounds("clear(MAX)", () -> x.clear(Integer.MAX_VALUE));
        Check.same("the saved states", 5, x.count(11));
        Check.same("clear(2)", 400, x.clear(2));
        Check.same("clear(0)", 100, x.clear(0));
        Check.layers("after three went", x, 300, 30);
        Check.same("a height that went comes again", 0, x.layer(100, 11));
        Check.layers("after one came again", x, 100, 11, 300, 30);
        x.undo();
        x.undo();
        Check.layers("after two undo()", x, 100, 10, 300, 30);
    }

    private static void sixthComesAgain() {
        CloudBeams x = new CloudBeams();
        for (int i = 1; i <= 6; i++) {
            x.layer(100 * i, i);
        }
        Check.same("clear(5) of six", 600, x.clear(5));
        Check.same("a sixth layer comes again", 0, x.layer(50, 9));
        Check.layers("with six again", x, 50, 9, 100, 1, 200, 2, 300, 3, 400, 4, 500, 5);
        Check.same("clear(0) of six", 50, x.clear(0));
        Check.layers("with five again", x, 100, 1, 200, 2, 300, 3, 400, 4, 500, 5);
    }

    private static void clearThin() {
        CloudBeams x = new CloudBeams();
        Check.same("clearThin(100) of a clear sky", 0, x.clearThin(100));
        Check.same("the saved states after nothing changed", 1, x.count(11));
        x.layer(100, 10);
        x.layer(200, 9);
        x.layer(300, 11);
        x.layer(400, 10);
        x.layer(500, 100);
        Check.same("clearThin(8)", 0, x.clearThin(8));
        Check.same("clearThin(10)", 3, x.clearThin(10));
        Check.layers("after clearThin(10)", x, 300, 11, 500, 100);
        Check.badArgument("clearThin(0)", () -> x.clearThin(0));
        Check.badArgument("clearThin(101)", () -> x.clearThin(101));
        Check.badArgument("clearThin(-5)", () -> x.clearThin(-5));
        Check.badArgument("clearThin(MAX)", () -> x.clearThin(Integer.MAX_VALUE));
        Check.layers("after refused calls", x, 300, 11, 500, 100);
        Check.same("clearThin(1)", 0, x.clearThin(1));
        Check.same("clearThin(100)", 2, x.clearThin(100));
        Check.layers("after clearThin(100)", x);
        x.undo();
        Check.layers("after undo()", x, 300, 11, 500, 100);
    }

    public static void main(String[] args) {
        layer();
        layerOutOfRange();
        clear();
        sixthComesAgain();
        clearThin();
        Check.end();
    }
}
