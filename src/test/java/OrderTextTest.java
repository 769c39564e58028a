/** Promises 10 to 13: append, clearBuffer, firstError, execute. */
public final class OrderTextTest {
    private static CloudBeams typed(String text) {
        CloudBeams x = new CloudBeams();
        Check.type(x, text);
        return x;
    }

    private static void append() {
        CloudBeams x = new CloudBeams();
        Check.same("append(33)", 1, x.append(33));
        Check.same("append(126)", 2, x.append(126));
        for (int wrong : new int[] {32, 127, 0, -1, 65536 + 'n', Integer.MIN_VALUE, Integer.MAX_VALUE}) {
            Check.badArgument("append(" + wrong + ")", () -> x.append(wrong));
        }
        for (int length = 3; length <= 60; length++) {
            Check.same("append() number " + length, length, x.append('n'));
        }
        Check.badState("append() to a full buffer", () -> x.append('n'));
        Check.badArgument("append(32) to a full buffer", () -> x.append(32));
        Check.same("the length of the buffer", 60, x.count(12));
        Check.same("the saved states", 0, x.count(11));
        Check.same("clearBuffer()", 60, x.clearBuffer());
        Check.same("clearBuffer() again", 0, x.clearBuffer());
        Check.same("the length of the buffer", 0, x.count(12));
        Check.same("append() after clearBuffer()", 1, x.append('n'));
        Check.same("the saved states", 0, x.count(11));
    }

    private static void error(String text, int due) {
        CloudBeams x = typed(text);
        Check.same("firstError() of " + text, due, x.firstError());
        if (due < text.length()) {
            Check.badArgument("execute() of " + text, x::execute);
            Check.same("the buffer after execute() of " + text, text.length(), x.count(12));
            Check.same("the saved states after execute() of " + text, 0, x.count(11));
        }
    }

    private static void errors() {
        error(";", 0);
        error("d", 0);
        error("A", 0);
        error("-", 0);
        error("5", 0);
        error("*", 0);
        error("n;;", 2);
        error("nn", 1);
        error("n0", 1);
        error("n-", 1);
        error("n*", 1);
        error("n;d", 2);
        error("n;n;n;", 6);
        error("c0", 1);
        error("c*", 1);
        error("c-", 1);
        error("c;", 1);
        error("c5*", 2);
        error("c49*", 3);
        error("c50*", 4);
        error("c50;", 3);
        error("c051", 1);
        error("c3000*", 6);
        error("c3001", 4);
        error("c301*1", 6);
        error("c3010", 4);
        error("c2999*", 6);
        error("c29990", 5);
        error("c4000", 4);
        error("c490*", 5);
        error("c50*0", 4);
        error("c50*;", 4);
        error("c50**", 4);
        error("c50*1*", 5);
        error("c50*-", 4);
        error("c50*100", 7);
        error("c50*101", 6);
        error("c50*110", 6);
        error("c50*1000", 7);
        error("c50*99;", 7);
        error("c50*1-", 5);
        error("a", 1);
        error("a;", 1);
        error("a*", 1);
        error("a0", 2);
        error("a00", 2);
        error("a01", 2);
        error("a-0", 3);
        error("a-00", 3);
        error("a-01", 3);
        error("a30", 3);
        error("a-30;", 5);
        error("a31", 2);
        error("a-31", 3);
        error("a300", 3);
        error("a4", 2);
        error("a40", 2);
        error("a--", 2);
        error("a1-", 2);
        error("a-;", 2);
        error("b-", 2);
        error("b29;", 4);
        error("b31", 2);
        error("x", 1);
        error("x;", 1);
        error("x-", 1);
        error("x*", 1);
        error("x5;", 3);
        error("x6", 1);
        error("x9", 1);
        error("x00", 2);
        error("x01", 2);
        error("x10", 2);
        error("x5*", 2);
        error("ab", 1);
        error("cc", 1);
        error("xn", 1);
        error("a5n", 2);
        error("n;c300*20;q", 10);
    }

    private static void incomplete() {
        for (String text : new String[] {"", "n;", "c", "c3", "c300", "c300*", "a", "a-", "b", "b-", "x", "a5;b"}) {
            CloudBeams x = typed(text);
            Check.same("firstError() of " + text, text.length(), x.firstError());
            Check.badArgument("execute() of " + text, x::execute);
            Check.same("the buffer after execute() of " + text, text.length(), x.count(12));
            Check.sameText("the state after execute() of " + text, Check.stateOf(new CloudBeams()), Check.stateOf(x));
            Check.same("the saved states after execute() of " + text, 0, x.count(11));
        }
    }

    private static void execute() {
        CloudBeams x = typed("c300*20;c100*5;a-12;b30;n;a5;b-0;n;x0");
        Check.same("execute()", 9, x.execute());
        Check.same("the buffer after execute()", 0, x.count(12));
        Check.same("the layers", 1, x.count(0));
        Check.same("the height of the layer", 300, x.layerOf(0, 0));
        Check.same("the thickness of the layer", 20, x.layerOf(0, 1));
        Check.same("the slope of light 0", 5, x.count(1));
        Check.same("the slope of light 1", 0, x.count(2));
        Check.same("the nights", 2, x.count(9));
        Check.same("the saved states", 1, x.count(11));
        Check.badArgument("execute() of the buffer that is empty now", x::execute);
        Check.same("undo()", 0, x.undo());
        Check.sameText("the state after undo()", Check.stateOf(new CloudBeams()), Check.stateOf(x));
        Check.same("the buffer after undo()", 0, x.count(12));
    }

    private static void stops() {
        CloudBeams x = typed("a1;c300*20;c300*21;a2");
        Check.same("execute() up to a height that is there", 2, x.execute());
        Check.same("the slope of light 0", 1, x.count(1));
        Check.same("the buffer", 0, x.count(12));
        Check.type(x, "x1;a3");
        Check.same("execute() of a layer that is not there", 0, x.execute());
        Check.same("the slope of light 0", 1, x.count(1));
        Check.same("the saved states, nothing executed", 2, x.count(11));
        Check.type(x, "c50*1;c51*1;c52*1;c53*1;c54*1;c55*1;n");
        Check.same("execute() up to a seventh layer", 5, x.execute());
        Check.same("the layers", 6, x.count(0));
        Check.same("the nights", 0, x.count(9));
        Check.type(x, "x5;x5;x4");
        Check.same("execute() up to a layer that went", 1, x.execute());
        Check.same("the layers", 5, x.count(0));
    }

    private static void longest() {
        StringBuilder text = new StringBuilder("a1");
        for (int i = 0; i < 29; i++) {
            text.append(";n");
        }
        CloudBeams x = typed(text.toString());
        Check.same("the length of the buffer", 60, x.count(12));
        Check.same("firstError() of 60 characters", 60, x.firstError());
        Check.same("execute() of 60 characters", 30, x.execute());
        Check.same("the nights", 29, x.count(9));
    }

    private static void bufferIsNoState() {
        CloudBeams x = new CloudBeams();
        x.keep(0);
        x.log();
        Check.type(x, "a7");
        x.undo();
        Check.same("the buffer after undo()", 2, x.count(12));
        x.goBack(0);
        Check.same("the buffer after goBack()", 2, x.count(12));
        Check.same("execute()", 1, x.execute());
        x.undo();
        Check.same("the buffer after execute() and undo()", 0, x.count(12));
    }

    public static void main(String[] args) {
        append();
        errors();
        incomplete();
        execute();
        stops();
        longest();
        bufferIsNoState();
        Check.end();
    }
}
