/** Promises 14 to 16: undo, keep, goBack. */
public final class UndoTest {
    private static void sixStates() {
        CloudBeams x = new CloudBeams();
        for (int slope = 11; slope <= 18; slope++) {
            x.aim(0, slope);
            Check.same("the saved states", Math.min(6, slope - 10), x.count(11));
        }
        for (int left = 5; left >= 0; left--) {
            Check.same("undo()", left, x.undo());
            Check.same("the slope after undo()", 12 + left, x.count(1));
        }
        Check.badState("undo() without a saved state", x::undo);
        Check.same("the slope after a refused call", 12, x.count(1));
        x.aim(0, 1);
        x.aim(0, 2);
        Check.same("undo() after new calls", 1, x.undo());
        x.aim(0, 3);
        Check.same("undo() of the last call", 1, x.undo());
        Check.same("the slope", 1, x.count(1));
        Check.same("undo() of the first call", 0, x.undo());
        Check.same("the slope", 12, x.count(1));
    }

    private static void othersSaveNothing() {
        CloudBeams x = new CloudBeams();
        x.layer(300, 20);
        x.append('n');
        x.firstError();
        x.clearBuffer();
        x.keep(1);
        x.layerOf(0, 2);
        x.spot(0, 0, 0);
        x.reading(0);
        x.night(0, 0);
        x.nearest(0, 0, 0);
        x.nearest(0, 0, 1);
        x.ifScanned(0, 0);
        x.clearEnough();
        x.meanError();
        Check.same("the saved states", 1, x.count(11));
    }

    private static void snapshots() {
        CloudBeams x = new CloudBeams();
        Check.badState("goBack(0), empty", () -> x.goBack(0));
        x.layer(300, 20);
        x.layer(400, 20);
        x.log();
        Check.same("keep(0)", 2, x.keep(0));
        String kept = Check.stateOf(x);
        x.clear(0);
        x.set(0, 500);
        x.turn(1);
        x.aim(1, 30);
        x.log();
        Check.same("keep(1)", 1, x.keep(1));
        String keptToo = Check.stateOf(x);
        x.clear(0);
        Check.same("goBack(0)", 2, x.goBack(0));
        Check.sameText("the state after goBack(0)", kept, Check.stateOf(x));
        Check.same("goBack(1)", 1, x.goBack(1));
        Check.sameText("the state after goBack(1)", keptToo, Check.stateOf(x));
        x.undo();
        Check.sameText("the state after undo()", kept, Check.stateOf(x));
        x.layer(60, 1);
        Check.same("goBack(0) again", 2, x.goBack(0));
        Check.sameText("the snapshot stays as it was", kept, Check.stateOf(x));
        Check.same("the saved states", 6, x.count(11));
    }

    private static void slotIsReplaced() {
        CloudBeams x = new CloudBeams();
        x.aim(0, 10);
        x.keep(0);
        x.aim(0, 20);
        x.keep(0);
        x.aim(0, 30);
        x.undo();
        x.undo();
        x.undo();
        Check.same("the slope after three undo()", 5, x.count(1));
        x.goBack(0);
        Check.same("the slope of the later snapshot", 20, x.count(1));
        Check.same("the saved states", 1, x.count(11));
        Check.badState("goBack(1), empty", () -> x.goBack(1));
        Check.same("the saved states after a refused call", 1, x.count(11));
        for (int wrong : new int[] {-1, 2, Integer.MIN_VALUE, Integer.MAX_VALUE}) {
            Check.badArgument("keep(" + wrong + ")", () -> x.keep(wrong));
            Check.badArgument("goBack(" + wrong + ")", () -> x.goBack(wrong));
        }
    }

    public static void main(String[] args) {
        sixStates();
        othersSaveNothing();
        snapshots();
        slotIsReplaced();
        Check.end();
    }
}
