import java.util.ArrayDeque;

/** Boundary cases, a test for each sentence: "Terms: Undo and snapshots", promises 14 to 16, count 11. */
public final class UndoEdgesTest {
    private static final int MIN = Integer.MIN_VALUE;
    private static final int MAX = Integer.MAX_VALUE;

    /** The calls that the document marks as undoable. */
    private static final int UNDOABLE = 10;

    /** Layers at 300 (too thin to be seen) and 305, two nights, a snapshot in the slot 0, and an order in the buffer. */
    private static CloudBeams some() {
        CloudBeams x = new CloudBeams();
        x.layer(305, 20);
        x.layer(300, 1);
        x.log();
        x.log();
        x.keep(0);
        Check.type(x, "a1;x0;n");
        return x;
    }

    /** Every one of these changes something in the sky of some(). */
    private static void change(CloudBeams x, int call) {
        switch (call) {
            case 0 -> x.layer(50, 3);
            case 1 -> x.clear(1);
            case 2 -> x.clearThin(1);
            case 3 -> x.aim(1, 30);
            case 4 -> x.turn(0);
            case 5 -> x.set(0, 1000);
            case 6 -> x.scan(0, 0);
            case 7 -> x.log();
            case 8 -> x.execute();
            default -> x.goBack(0);
        }
    }

    private static void everythingComesBack() {
        Check.sentence("The state consists of everything except the buffer, the saved states and the snapshots");
        for (int call = 0; call < UNDOABLE; call++) {
            CloudBeams x = some();
            x.set(1, 20);
            String before = Answers.ofState(x);
            int saved = x.count(11);
            change(x, call);
            Check.same("the saved states after call " + call, saved + 1, x.count(11));
            Check.same("undo() of call " + call, saved, x.undo());
            Check.sameText("the state after call " + call + " and undo()", before, Answers.ofState(x));
        }
    }

    private interface Start {
        CloudBeams make();
    }

    private interface Change {
        void to(CloudBeams x);
    }

    private static void partComesBack(String part, Start start, Change change) {
        String before = Answers.ofState(start.make());
        CloudBeams x = start.make();
        change.to(x);
        Check.same(part + " has changed", 0, before.equals(Answers.ofState(x)) ? 1 : 0);
        x.undo();
        Check.sameText("the state after " + part + " changed and undo()", before, Answers.ofState(x));
    }

    private static CloudBeams fullWithNineNights() {
        CloudBeams x = Skies.full();
        for (int night = 1; night <= 9; night++) {
            x.log();
        }
        return x;
    }

    private static void everyPartComesBack() {
        Check.sentence("Restores the state that was saved last: each setting, slope, light, layer and night");
        for (int setting = 0; setting <= 3; setting++) {
            int told = setting;
            partComesBack("the setting " + setting, UndoEdgesTest::some, x -> x.set(told, 99));
        }
        for (int light = 0; light <= 1; light++) {
            int told = light;
            partComesBack("the slope of light " + light, UndoEdgesTest::some, x -> x.aim(told, 0));
            partComesBack("the light " + light, UndoEdgesTest::some, x -> x.turn(told));
        }
        partComesBack("the log", UndoEdgesTest::fullWithNineNights, CloudBeams::log);
        partComesBack("the lowest of six layers", UndoEdgesTest::fullWithNineNights, x -> x.clear(0));
        partComesBack("all of six layers", UndoEdgesTest::fullWithNineNights, x -> x.clearThin(100));
    }

    private static void nothingChanges() {
        Check.sentence("saves the state from before the call if it does not throw an exception, even if nothing changes");
        for (int call = 0; call < 7; call++) {
            String before = Answers.ofState(idle());
            CloudBeams x = idle();
            idleCall(x, call);
            Check.sameText("the state after idle call " + call, before, Answers.ofState(x));
            Check.same("the saved states after idle call " + call, 2, x.count(11));
            Check.same("undo() after idle call " + call, 1, x.undo());
            Check.sameText("the state after idle call " + call + " and undo()", before, Answers.ofState(x));
        }
    }

    private static CloudBeams idle() {
        CloudBeams x = Skies.with(300, 20);
        x.keep(0);
        Check.type(x, "x1");
        return x;
    }

    private static void idleCall(CloudBeams x, int call) {
        switch (call) {
            case 0 -> x.clearThin(19);
            case 1 -> x.aim(0, 5);
            case 2 -> x.aim(1, -5);
            case 3 -> x.set(3, 10);
            case 4 -> x.scan(0, 0);
            case 5 -> x.execute();
            default -> x.goBack(0);
        }
    }

    private static void atMostSix() {
        Check.sentence("At most 6 states are saved; when one more is saved, the oldest one is dropped");
        for (int calls = 0; calls <= 14; calls++) {
            CloudBeams x = new CloudBeams();
            for (int call = 1; call <= calls; call++) {
                x.aim(0, 10 + call);
                Check.same("count(11) after " + call + " calls", Math.min(6, call), x.count(11));
            }
            for (int undone = 1; undone <= Math.min(6, calls); undone++) {
                Check.same("undo() " + undone + " of " + calls, Math.min(6, calls) - undone, x.undo());
                Check.same("count(11)", Math.min(6, calls) - undone, x.count(11));
                Check.same("the slope", calls == undone ? 5 : 10 + calls - undone, x.count(1));
            }
            Check.badState("undo() too many after " + calls, x::undo);
            Check.badState("undo() too many again", x::undo);
            Check.same("the slope in the end", calls <= 6 ? 5 : 4 + calls, x.count(1));
            Check.same("count(11) in the end", 0, x.count(11));
        }
    }

    private static void seventh() {
        Check.sentence("when one more is saved, the oldest one is dropped: whichever undoable method saves it");
        for (int call = 0; call < UNDOABLE; call++) {
            CloudBeams x = some();
            for (int slope = 11; slope <= 16; slope++) {
                x.aim(0, slope);
            }
            Check.same("count(11)", 6, x.count(11));
            change(x, call);
            Check.same("count(11) after call " + call, 6, x.count(11));
            for (int slope = 16; slope >= 11; slope--) {
                x.undo();
                Check.same("the slope of light 0", slope, x.count(1));
            }
            Check.badState("undo() beyond the oldest, call " + call, x::undo);
        }
    }

    /** All rows of fourteen that call aim() (1) or undo() (0), beside a row of slopes that does the same. */
    private static void callsAndUndos() {
        Check.sentence("Restores the state that was saved last, and removes it from the saved states");
        for (int code = 0; code < 1 << 14; code++) {
            CloudBeams x = new CloudBeams();
            ArrayDeque<Integer> saved = new ArrayDeque<>();
            int slope = 5;
            for (int call = 0; call < 14; call++) {
                if ((code >> call & 1) == 1) {
                    saved.addLast(slope);
                    if (saved.size() > 6) {
                        saved.removeFirst();
                    }
                    slope = call - 30;
                    x.aim(0, slope);
                } else if (saved.isEmpty()) {
                    Check.badState("undo() without a saved state", x::undo);
                } else {
                    slope = saved.removeLast();
                    Check.same("undo() in row " + code, saved.size(), x.undo());
                }
                Check.same("the slope in row " + code, slope, x.count(1));
                Check.same("count(11) in row " + code, saved.size(), x.count(11));
            }
        }
    }

    private static void nothingIsSaved() {
        Check.sentence("Promise 14: Throws IllegalStateException if no state is saved");
        CloudBeams x = new CloudBeams();
        Check.badState("undo() of a new object", x::undo);
        x.keep(0);
        x.append('n');
        x.clearBuffer();
        Check.badState("undo() after calls that are not undoable", x::undo);
        x.log();
        Check.same("undo()", 0, x.undo());
        Check.badState("undo() again", x::undo);
        Check.same("count(11)", 0, x.count(11));
    }

    private static void bufferIsNoState() {
        Check.sentence("everything except the buffer");
        CloudBeams x = new CloudBeams();
        x.log();
        x.keep(0);
        Check.type(x, "n;a7");
        x.undo();
        Check.same("the buffer after undo()", 4, x.count(12));
        x.goBack(0);
        Check.same("the buffer after goBack()", 4, x.count(12));
        x.clearBuffer();
        x.undo();
        Check.same("the cleared buffer after undo()", 0, x.count(12));
        x.goBack(0);
        Check.same("the cleared buffer after goBack()", 0, x.count(12));
        Check.type(x, "b9");
        x.keep(1);
        x.undo();
        Check.same("execute() of what was typed between", 1, x.execute());
        Check.same("the slope of light 1", 9, x.count(2));
        x.undo();
        Check.same("the buffer after execute() and undo()", 0, x.count(12));
    }

    private static void snapshotsAreNoState() {
        Check.sentence("everything except the snapshots");
        CloudBeams x = new CloudBeams();
        x.aim(0, 11);
        x.keep(0);
        x.undo();
        Check.same("the slope after undo()", 5, x.count(1));
        x.keep(1);
        x.goBack(0);
        Check.same("the slope of a snapshot from before undo()", 11, x.count(1));
        x.aim(0, 12);
        x.keep(0);
        x.undo();
        x.undo();
        Check.same("the slope after two undo()", 5, x.count(1));
        x.goBack(0);
        Check.same("the slope of the later snapshot, after undo()", 12, x.count(1));
        x.goBack(1);
        Check.same("the slope of the other snapshot", 5, x.count(1));
        Check.same("the slots are not in a snapshot", 0, x.goBack(0));
        Check.same("the slope of the later snapshot, after goBack()", 12, x.count(1));
    }

    private static void savedStatesAreNoState() {
        Check.sentence("everything except the saved states");
        CloudBeams x = new CloudBeams();
        x.keep(0);
        x.aim(0, 11);
        x.aim(0, 12);
        x.keep(1);
        x.goBack(0);
        Check.same("the saved states after goBack(0)", 3, x.count(11));
        x.goBack(1);
        Check.same("the saved states after goBack(1)", 4, x.count(11));
        for (int left = 3; left >= 0; left--) {
            Check.same("undo()", left, x.undo());
            Check.same("the slope", new int[] {5, 11, 12, 5}[left], x.count(1));
        }
    }

    private static void slotsEmptyAtFirst() {
        Check.sentence("There are two snapshot slots, which are empty at first; Promise 16: if the slot is empty");
        CloudBeams x = new CloudBeams();
        Check.badState("goBack(0), empty", () -> x.goBack(0));
        Check.badState("goBack(1), empty", () -> x.goBack(1));
        x.keep(0);
        Check.badState("goBack(1), empty, with a snapshot in the slot 0", () -> x.goBack(1));
        Check.same("count(11) after refused calls", 0, x.count(11));
        Check.same("goBack(0)", 0, x.goBack(0));
        CloudBeams y = new CloudBeams();
        y.keep(1);
        Check.badState("goBack(0), empty, with a snapshot in the slot 1", () -> y.goBack(0));
        Check.same("goBack(1)", 0, y.goBack(1));
    }

    private static void noSuchSlot() {
        Check.sentence("Promises 15 and 16: Throws IllegalArgumentException if there is no such slot");
        CloudBeams empty = new CloudBeams();
        CloudBeams x = new CloudBeams();
        x.keep(0);
        x.keep(1);
        for (int slot : new int[] {MIN, -1, 2, 3, MAX}) {
            Check.badArgument("keep(" + slot + ")", () -> empty.keep(slot));
            Check.badArgument("goBack(" + slot + ") with empty slots", () -> empty.goBack(slot));
            Check.badArgument("goBack(" + slot + ") with full slots", () -> x.goBack(slot));
        }
        Check.badState("goBack(0), still empty", () -> empty.goBack(0));
        Check.badState("goBack(1), still empty", () -> empty.goBack(1));
    }

    private static void replaces() {
        Check.sentence("Promise 15: Takes a snapshot of the state, which replaces the one in the slot");
        for (int slot = 0; slot <= 1; slot++) {
            CloudBeams x = Skies.with(300, 20);
            x.keep(slot);
            x.aim(0, 11);
            x.keep(1 - slot);
            x.aim(0, 12);
            x.keep(slot);
            x.aim(0, 13);
            x.goBack(slot);
            Check.same("the slope of the later snapshot", 12, x.count(1));
            x.goBack(1 - slot);
            Check.same("the slope of the other slot's snapshot", 11, x.count(1));
        }
    }

    private static void numberOfLayers() {
        Check.sentence("Promises 15 and 16: Returns the number of layers (after the call)");
        for (int layers = 0; layers <= 6; layers++) {
            CloudBeams x = new CloudBeams();
            for (int i = 0; i < layers; i++) {
                x.layer(100 + i, 1);
            }
            Check.same("keep(0)", layers, x.keep(0));
            x.clearThin(100);
            Check.same("keep(1)", 0, x.keep(1));
            Check.same("goBack(0)", layers, x.goBack(0));
            Check.same("count(0)", layers, x.count(0));
            Check.same("goBack(1)", 0, x.goBack(1));
            Check.same("count(0) of no layers", 0, x.count(0));
        }
    }

    private static void staysInItsSlot() {
        Check.sentence("Promise 16: Restores a snapshot, which stays in its slot");
        CloudBeams x = some();
        x.keep(1);
        for (int call = 0; call < UNDOABLE; call++) {
            change(x, call);
            x.undo();
            x.log();
            x.goBack(1);
        }
        String kept = Answers.ofState(some());
        Check.sameText("the state after all those calls", kept, Answers.ofState(x));
        x.goBack(1);
        Check.sameText("the state after goBack(1) twice", kept, Answers.ofState(x));
    }

    private static void goBackIsUndoable() {
        Check.sentence("Promise 16: Undoable");
        CloudBeams x = some();
        for (int i = 0; i < 9; i++) {
            x.log();
        }
        x.clear(0);
        x.turn(1);
        String before = Answers.ofState(x);
        Check.same("goBack(0)", 2, x.goBack(0));
        Check.same("the nights logged so far", 2, x.count(9));
        Check.same("the false readings logged so far", 2, x.count(10));
        Check.same("the saved states", 6, x.count(11));
        Check.same("undo()", 5, x.undo());
        Check.sameText("the state after goBack() and undo()", before, Answers.ofState(x));
    }

    private static void othersSaveNothing() {
        Check.sentence("Each method that is marked \"Undoable\" saves the state: no other does");
        CloudBeams x = some();
        int saved = x.count(11);
        x.append('n');
        x.firstError();
        x.clearBuffer();
        x.keep(0);
        x.keep(1);
        Answers.ofState(x);
        Check.same("the saved states", saved, x.count(11));
        x.undo();
        x.undo();
        Check.same("the saved states after two undo()", saved - 2, x.count(11));
    }

    public static void main(String[] args) {
        everythingComesBack();
        everyPartComesBack();
        nothingChanges();
        atMostSix();
        seventh();
        callsAndUndos();
        nothingIsSaved();
        bufferIsNoState();
        snapshotsAreNoState();
        savedStatesAreNoState();
        slotsEmptyAtFirst();
        noSuchSlot();
        replaces();
        numberOfLayers();
        staysInItsSlot();
        goBackIsUndoable();
        othersSaveNothing();
        Check.end();
    }
}
