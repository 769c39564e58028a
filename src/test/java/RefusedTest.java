import java.util.ArrayList;
import java.util.List;

/**
 * "A call that throws an exception changes nothing": each call that can be refused is refused in several scenes, and
 * every later answer is compared with that of an object that never was asked; queries are held to the same.
 */
public final class RefusedTest {
    private static final int MIN = Integer.MIN_VALUE;
    private static final int MAX = Integer.MAX_VALUE;

    private interface Scene {
        CloudBeams make();
    }

    private interface Call {
        long to(CloudBeams x);
    }

    private record Refused(String name, Class<? extends RuntimeException> due, Call call) {
    }

    private static final List<Refused> REFUSED = new ArrayList<>();

    private static void argument(String name, Call call) {
        REFUSED.add(new Refused(name, IllegalArgumentException.class, call));
    }

    private static void index(String name, Call call) {
        REFUSED.add(new Refused(name, IndexOutOfBoundsException.class, call));
    }

    private static void state(String name, Call call) {
        REFUSED.add(new Refused(name, IllegalStateException.class, call));
    }

    // ---- scenes

    private static CloudBeams someOfAll() {
        CloudBeams x = new CloudBeams();
        x.layer(305, 20);
        x.layer(300, 1);
        x.log();
        x.keep(0);
        x.set(1, 20);
        Check.type(x, "a7;n");
        return x;
    }

    private static CloudBeams allFull() {
        CloudBeams x = Skies.full();
        for (int night = 1; night <= 4; night++) {
            x.log();
        }
        x.keep(1);
        x.clear(5);
        x.layer(601, 61);
        for (int night = 1; night <= 6; night++) {
            x.log();
        }
        x.keep(0);
        Check.type(x, "b-3" + ";x0".repeat(19));
        return x;
    }

    private static CloudBeams undone() {
        CloudBeams x = Skies.full();
        x.turn(1);
        x.keep(1);
        x.aim(0, 7);
        x.clearThin(20);
        x.undo();
        x.undo();
        Check.type(x, "c300*");
        return x;
    }

    private static CloudBeams withError() {
        CloudBeams x = new CloudBeams();
        x.turn(0);
        x.undo();
        Check.type(x, "n;" + "?".repeat(58));
        return x;
    }

    // ---- what comes later

    /** What an object tells in five ways; each way has an object of its own, as no one is asked more than 512 times. */
    private static String later(Scene scene, Call call) {
        StringBuilder told = new StringBuilder(Answers.of(after(scene, call)));
        CloudBeams x = after(scene, call);
        for (int undone = 1; undone <= 6; undone++) {
            told.append(Check.outcome(x::undo)).append(Check.stateOf(x)).append('\n');
        }
        told.append(Check.outcome(x::undo)).append('\n');
        for (int slot = 0; slot <= 1; slot++) {
            int asked = slot;
            CloudBeams y = after(scene, call);
            told.append(Check.outcome(() -> y.goBack(asked))).append(Answers.of(y)).append('\n');
        }
        CloudBeams z = after(scene, call);
        told.append(Check.outcome(z::execute)).append(Answers.of(z)).append('\n');
        CloudBeams b = after(scene, call);
        told.append(Check.outcome(() -> b.append('n'))).append(Check.outcome(b::firstError));
        told.append(Check.outcome(b::clearBuffer)).append(Check.outcome(() -> b.append('n')));
        told.append(Check.outcome(b::execute)).append(Check.outcome(b::log)).append(Answers.of(b));
        return told.toString();
    }

    private static CloudBeams after(Scene scene, Call call) {
        CloudBeams x = scene.make();
        Check.outcome(() -> call.to(x));
        return x;
    }

    private static void refuseAll(String when, Scene scene) {
        String untouched = later(scene, x -> 0);
        for (Refused refused : REFUSED) {
            CloudBeams x = scene.make();
            Check.refuses(refused.name() + " " + when, refused.due(), () -> refused.call().to(x));
            Check.sameText("what comes after " + refused.name() + " " + when, untouched, later(scene, refused.call()));
        }
        REFUSED.clear();
    }

    // ---- calls that are refused in every scene

    private static void layersOutOfRange() {
        for (int wrong : new int[] {MIN, -1, 0, 49, 3001, MAX}) {
            argument("layer(" + wrong + ", 10)", x -> x.layer(wrong, 10));
        }
        for (int wrong : new int[] {MIN, -1, 0, 101, MAX}) {
            argument("layer(307, " + wrong + ")", x -> x.layer(307, wrong));
            argument("clearThin(" + wrong + ")", x -> x.clearThin(wrong));
        }
        for (int wrong : new int[] {MIN, -1, 6, MAX}) {
            index("clear(" + wrong + ")", x -> x.clear(wrong));
        }
    }

    private static void lightsOutOfRange() {
        for (int wrong : new int[] {MIN, -1, 2, MAX}) {
            index("aim(" + wrong + ", 3)", x -> x.aim(wrong, 3));
            index("turn(" + wrong + ")", x -> x.turn(wrong));
            index("scan(" + wrong + ", 0)", x -> x.scan(wrong, 0));
            index("nearest(" + wrong + ", 0, 0)", x -> x.nearest(wrong, 0, 0));
            index("ifScanned(" + wrong + ", 0)", x -> x.ifScanned(wrong, 0));
            index("spot(" + wrong + ", 0, 0)", x -> x.spot(wrong, 0, 0));
        }
        for (int wrong : new int[] {MIN, -31, 31, MAX}) {
            argument("aim(0, " + wrong + ")", x -> x.aim(0, wrong));
            argument("aim(1, " + wrong + ")", x -> x.aim(1, wrong));
        }
        for (int wrong : new int[] {MIN, -1, 6, MAX}) {
            index("scan(0, " + wrong + ")", x -> x.scan(0, wrong));
            index("scan(1, " + wrong + ")", x -> x.scan(1, wrong));
            index("nearest(1, " + wrong + ", 1)", x -> x.nearest(1, wrong, 1));
            index("spot(1, " + wrong + ", 0)", x -> x.spot(1, wrong, 0));
            index("layerOf(" + wrong + ", 0)", x -> x.layerOf(wrong, 0));
        }
    }

    private static void settingsOutOfRange() {
        int[] least = {50, 0, 1, 0};
        int[] most = {1000, 1000, 500, 100};
        for (int setting = 0; setting <= 3; setting++) {
            int told = setting;
            for (int wrong : new int[] {MIN, least[setting] - 1, most[setting] + 1, MAX}) {
                argument("set(" + setting + ", " + wrong + ")", x -> x.set(told, wrong));
            }
        }
        for (int wrong : new int[] {MIN, -1, 4, MAX}) {
            index("set(" + wrong + ", 50)", x -> x.set(wrong, 50));
        }
    }

    private static void othersOutOfRange() {
        for (int wrong : new int[] {MIN, 32, 127, MAX}) {
            argument("append(" + wrong + ")", x -> x.append(wrong));
        }
        for (int wrong : new int[] {MIN, -1, 2, MAX}) {
            argument("keep(" + wrong + ")", x -> x.keep(wrong));
            argument("goBack(" + wrong + ")", x -> x.goBack(wrong));
        }
        for (int wrong : new int[] {MIN, -1, 4, MAX}) {
            argument("reading(" + wrong + ")", x -> x.reading(wrong));
            argument("night(0, " + wrong + ")", x -> x.night(0, wrong));
            argument("ifScanned(0, " + wrong + ")", x -> x.ifScanned(0, wrong));
        }
        argument("night(-1, 0)", x -> x.night(-1, 0));
        argument("night(-1, 4)", x -> x.night(-1, 4));
        argument("count(-1)", x -> x.count(-1));
        argument("count(17)", x -> x.count(17));
        argument("count(MIN)", x -> x.count(MIN));
        argument("count(MAX)", x -> x.count(MAX));
    }

    /** Where two exceptions apply to a call. */
    private static void firstListed() {
        index("aim(2, 31)", x -> x.aim(2, 31));
        index("aim(-1, -31)", x -> x.aim(-1, -31));
        index("set(4, -1)", x -> x.set(4, -1));
        index("set(-1, 1001)", x -> x.set(-1, 1001));
        index("layerOf(6, 4)", x -> x.layerOf(6, 4));
        index("layerOf(-1, -1)", x -> x.layerOf(-1, -1));
        index("spot(2, 0, 5)", x -> x.spot(2, 0, 5));
        index("spot(0, 6, 5)", x -> x.spot(0, 6, 5));
        index("spot(-1, -1, -1)", x -> x.spot(-1, -1, -1));
        index("nearest(2, 0, 2)", x -> x.nearest(2, 0, 2));
        index("nearest(0, 6, -1)", x -> x.nearest(0, 6, -1));
        index("nearest(-1, -1, 2)", x -> x.nearest(-1, -1, 2));
        index("ifScanned(2, 4)", x -> x.ifScanned(2, 4));
        index("ifScanned(-1, -1)", x -> x.ifScanned(-1, -1));
    }

    private static void everywhere() {
        layersOutOfRange();
        lightsOutOfRange();
        settingsOutOfRange();
        othersOutOfRange();
        firstListed();
    }

    // ---- calls that a scene alone refuses

    private static void newObject() {
        Check.sentence("A call that throws an exception changes nothing: a new object");
        everywhere();
        index("clear(0)", x -> x.clear(0));
        index("layerOf(0, 0)", x -> x.layerOf(0, 0));
        index("layerOf(0, 4)", x -> x.layerOf(0, 4));
        index("spot(0, 0, 0)", x -> x.spot(0, 0, 0));
        index("spot(0, 0, 5)", x -> x.spot(0, 0, 5));
        index("scan(0, 0)", x -> x.scan(0, 0));
        index("nearest(0, 0, 0)", x -> x.nearest(0, 0, 0));
        index("nearest(0, 0, 2)", x -> x.nearest(0, 0, 2));
        argument("execute() of an empty buffer", x -> x.execute());
        state("undo()", x -> x.undo());
        state("goBack(0)", x -> x.goBack(0));
        state("goBack(1)", x -> x.goBack(1));
        refuseAll("of a new object", CloudBeams::new);
    }

    private static void afterSomeOfAll() {
        Check.sentence("A call that throws an exception changes nothing: after some of all calls");
        everywhere();
        for (int height : new int[] {300, 305}) {
            state("layer(" + height + ", 10)", x -> x.layer(height, 10));
            argument("layer(" + height + ", 0)", x -> x.layer(height, 0));
            argument("layer(" + height + ", 101)", x -> x.layer(height, 101));
        }
        index("clear(2)", x -> x.clear(2));
        index("layerOf(2, 0)", x -> x.layerOf(2, 0));
        argument("layerOf(1, 4)", x -> x.layerOf(1, 4));
        argument("spot(1, 1, 5)", x -> x.spot(1, 1, 5));
        argument("nearest(0, 1, 2)", x -> x.nearest(0, 1, 2));
        index("nearest(0, 2, 2)", x -> x.nearest(0, 2, 2));
        state("goBack(1)", x -> x.goBack(1));
        refuseAll("after some of all calls", RefusedTest::someOfAll);
    }

    private static void whenAllIsFull() {
        Check.sentence("A call that throws an exception changes nothing: when all rows are full");
        everywhere();
        for (int height : new int[] {50, 250, 601, 602, 3000}) {
            state("layer(" + height + ", 10)", x -> x.layer(height, 10));
        }
        argument("layer(49, 10)", x -> x.layer(49, 10));
        argument("layer(601, 101)", x -> x.layer(601, 101));
        state("append(33)", x -> x.append(33));
        state("append(126)", x -> x.append(126));
        argument("append(32), full", x -> x.append(32));
        argument("append(127), full", x -> x.append(127));
        argument("layerOf(5, 4)", x -> x.layerOf(5, 4));
        refuseAll("when all is full", RefusedTest::allFull);
    }

    private static void afterUndo() {
        Check.sentence("A call that throws an exception changes nothing: after undo(), with an order begun");
        everywhere();
        argument("execute() of c300*", x -> x.execute());
        argument("spot(1, 0, 5) of a light that is off", x -> x.spot(1, 0, 5));
        state("goBack(0)", x -> x.goBack(0));
        state("layer(250, 10)", x -> x.layer(250, 10));
        refuseAll("after undo()", RefusedTest::undone);
    }

    private static void withAnError() {
        Check.sentence("A call that throws an exception changes nothing: with an error in a full buffer");
        everywhere();
        argument("execute() of an error", x -> x.execute());
        state("append('n')", x -> x.append('n'));
        state("undo()", x -> x.undo());
        refuseAll("with an error", RefusedTest::withError);
    }

    // ---- queries

    private static void asked(String when, Scene scene, String name, Call call) {
        Check.sameText("what comes after " + name + " " + when, later(scene, x -> 0), later(scene, call));
    }

    private static void queries(String when, Scene scene) {
        Check.sentence("queries; nothing changes. what would be; nothing changes: " + when);
        asked(when, scene, "all counts", x -> {
            for (int what = 0; what <= 16; what++) {
                x.count(what);
            }
            return 0;
        });
        asked(when, scene, "all of readings and nights", x -> {
            for (int what = 0; what <= 3; what++) {
                x.reading(what);
                x.night(0, what);
                x.night(7, what);
                x.night(MAX, what);
                x.ifScanned(0, what);
                x.ifScanned(1, what);
            }
            return 0;
        });
        asked(when, scene, "all of layers", RefusedTest::askOfLayers);
        asked(when, scene, "clearEnough()", x -> x.clearEnough());
        asked(when, scene, "meanError()", x -> (long) x.meanError());
        asked(when, scene, "firstError()", x -> x.firstError());
    }

    private static long askOfLayers(CloudBeams x) {
        for (int layer = 0; layer < x.count(0); layer++) {
            x.layerOf(layer, 2);
            x.layerOf(layer, 3);
            x.spot(0, layer, 3);
            x.spot(1, layer, 4);
            x.nearest(0, layer, 0);
            x.nearest(1, layer, 1);
        }
        return 0;
    }

    public static void main(String[] args) {
        newObject();
        afterSomeOfAll();
        whenAllIsFull();
        afterUndo();
        withAnError();
        queries("a new object", CloudBeams::new);
        queries("after some of all calls", RefusedTest::someOfAll);
        queries("when all is full", RefusedTest::allFull);
        queries("after undo()", RefusedTest::undone);
        queries("with an error", RefusedTest::withError);
        Check.end();
    }
}
