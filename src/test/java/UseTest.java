/** Boundary cases, a test for each sentence: NONE, a new object, the range of count(), 512 calls of one object. */
public final class UseTest {
    private static final int MIN = Integer.MIN_VALUE;
    private static final int MAX = Integer.MAX_VALUE;
    private static final int NONE = CloudBeams.NONE;
    private static final int MOST_CALLS = 512;

    private static void belowAll() {
        Check.sentence("There is no such number; it is below all places, distances and errors");
        Check.same("NONE", -99999, NONE);
        for (int base : new int[] {50, 1000}) {
            for (int height : new int[] {50, 3000}) {
                CloudBeams x = Skies.clearAir(height, 10);
                x.set(0, base);
                for (int code = 0; code < 4; code++) {
                    Skies.aimBoth(x, (code & 1) == 0 ? -30 : 30, (code & 2) == 0 ? -30 : 30);
                    Check.same("a place of light 0 is above NONE", 1, x.spot(0, 0, 0) > NONE ? 1 : 0);
                    Check.same("a place of light 1 is above NONE", 1, x.spot(1, 0, 0) > NONE ? 1 : 0);
                    Check.same("a distance is above NONE", 1, x.layerOf(0, 2) > NONE ? 1 : 0);
                }
            }
        }
        CloudBeams x = Skies.clearAir(3000, 10);
        x.set(0, 50);
        Skies.aimBoth(x, 30, -30);
        Check.same("the least distance", -17950, x.layerOf(0, 2));
        Check.same("the least place", -9000, least(x));
    }

    private static int least(CloudBeams x) {
        x.aim(0, -30);
        return Math.min(x.spot(0, 0, 0), x.spot(1, 0, 0));
    }

    private static void clearSky() {
        Check.sentence("Promise 1: Creates a clear sky");
        CloudBeams x = new CloudBeams();
        int[] counts = {0, 5, -5, 3, 300, 0, 0, 0, 0, 0, 0, 0, 0, 300, 100, 20, 10};
        for (int what = 0; what < counts.length; what++) {
            Check.same("count(" + what + ")", counts[what], x.count(what));
        }
        for (int what = 0; what <= 3; what++) {
            int asked = what;
            Check.same("reading(" + what + ")", NONE, x.reading(what));
            Check.same("night(0, " + what + ")", NONE, x.night(0, what));
            Check.outOfBounds("layerOf(0, " + what + ")", () -> x.layerOf(0, asked));
        }
        Check.same("clearEnough()", 1000, x.clearEnough());
        Check.sameFloat("meanError()", 0.0f, x.meanError());
    }

    private static void objectsAreApart() {
        Check.sentence("Promise 1: Creates a clear sky: whatever others were made, and used, before");
        CloudBeams early = new CloudBeams();
        CloudBeams x = Skies.full();
        x.keep(0);
        x.log();
        x.set(2, 7);
        x.turn(0);
        x.aim(1, 9);
        Check.type(x, "n");
        Check.sameText("an object made before", Answers.of(early), Answers.of(new CloudBeams()));
        Check.badState("undo() of an object made before", early::undo);
        Check.badState("goBack(0) of an object made before", () -> early.goBack(0));
    }

    private static void whatOfCount() {
        Check.sentence("Promise 21: Throws IllegalArgumentException if what is not 0 to 16");
        CloudBeams x = Skies.typed("n;a5");
        for (int what : new int[] {MIN, -17, -1, 17, 18, MAX}) {
            Check.badArgument("count(" + what + ")", () -> x.count(what));
        }
        x.layer(300, 10);
        Check.same("count(0), the first one", 1, x.count(0));
        Check.same("count(16), the last one", 10, x.count(16));
        Check.same("count(11), the saved states", 1, x.count(11));
        Check.same("count(12), the length of the buffer", 4, x.count(12));
    }

    private static void manyNights() {
        Check.sentence("An object is used for at most 512 calls: nights and false readings");
        CloudBeams x = Skies.with(305, 10, 300, 1);
        int nights = MOST_CALLS - 2 - 4;
        for (int night = 1; night <= nights; night++) {
            Check.same("log() number " + night, Math.min(8, night), x.log());
        }
        Check.same("the nights logged so far", nights, x.count(9));
        Check.same("the false readings logged so far", nights, x.count(10));
        Check.same("the nights in the log", 8, x.count(8));
        Check.sameFloat("meanError()", 5.0f, x.meanError());
    }

    private static void manySavedStates() {
        Check.sentence("An object is used for at most 512 calls: saved states");
        CloudBeams x = new CloudBeams();
        int calls = MOST_CALLS - 13;
        for (int call = 1; call <= calls; call++) {
            Check.same("aim() number " + call, call == 1 ? 5 : (call - 1) % 61 - 30, x.aim(0, call % 61 - 30));
        }
        for (int left = 5; left >= 0; left--) {
            Check.same("undo()", left, x.undo());
            Check.same("the slope", (calls - 6 + left) % 61 - 30, x.count(1));
        }
        Check.badState("undo() as the 512th call", x::undo);
    }

    private static void manyLayers() {
        Check.sentence("An object is used for at most 512 calls: layers that come and go");
        CloudBeams x = Skies.full();
        for (int call = 0; call < 252; call++) {
            Check.same("clear(3)", call == 0 ? 400 : 400 + (call - 1) % 99, x.clear(3));
            Check.same("layer()", 3, x.layer(400 + call % 99, 9));
        }
        Check.same("the layers", 6, x.count(0));
        Check.badState("a seventh layer as the 512th call", () -> x.layer(50, 1));
    }

    private static void manyTexts() {
        Check.sentence("An object is used for at most 512 calls: order texts");
        CloudBeams x = new CloudBeams();
        for (int call = 1; call <= 255; call++) {
            Check.same("append()", 1, x.append('n'));
            Check.same("execute()", 1, x.execute());
        }
        Check.same("the nights logged so far", 255, x.count(9));
        Check.same("firstError() as the 512th call", 0, x.firstError());
    }

    private static void manySnapshots() {
        Check.sentence("An object is used for at most 512 calls: snapshots");
        CloudBeams x = new CloudBeams();
        for (int call = 0; call < 127; call++) {
            int slot = call % 2;
            x.aim(0, call % 61 - 30);
            Check.same("keep()", 0, x.keep(slot));
            Check.same("goBack()", 0, x.goBack(call == 0 ? 0 : 1 - slot));
            Check.same("the slope that was kept", call == 0 ? -30 : (call - 1) % 61 - 30, x.count(1));
        }
        Check.same("the saved states", 6, x.count(11));
    }

    public static void main(String[] args) {
        belowAll();
        clearSky();
        objectsAreApart();
        whatOfCount();
        manyNights();
        manySavedStates();
        manyLayers();
        manyTexts();
        manySnapshots();
        Check.end();
    }
}
