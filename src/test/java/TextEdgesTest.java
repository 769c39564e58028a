/** Boundary cases of order texts, a test for each sentence: "Terms: Order text", promises 10 to 13, count 12. */
public final class TextEdgesTest {
    private static final int MIN = Integer.MIN_VALUE;
    private static final int MAX = Integer.MAX_VALUE;
    private static final String WHOLE = "c3000*100;c50*1;a-30;b30;x5;x0;a-0;b-0;n;n;n;n;n;n;n;n;n;n";

    private static void codeRange() {
        Check.sentence("Promise 10: code: a character code, 33 to 126");
        for (int code = 33; code <= 126; code++) {
            Check.same("append(" + code + ")", 1, new CloudBeams().append(code));
        }
        CloudBeams x = Skies.typed("n");
        for (int code : new int[] {MIN, -33, -1, 0, 10, 31, 32, 127, 128, 255, 256 + 'n', 65536 + 'n', MAX}) {
            Check.badArgument("append(" + code + ")", () -> x.append(code));
            Check.same("count(12) after append(" + code + ")", 1, x.count(12));
        }
        Check.same("execute()", 1, x.execute());
    }

    private static void atMostSixty() {
        Check.sentence("The buffer holds at most 60 characters; Promise 10: Returns the new length of the buffer");
        CloudBeams x = new CloudBeams();
        for (int length = 1; length <= 60; length++) {
            Check.same("append() number " + length, length, x.append('n'));
            Check.same("count(12)", length, x.count(12));
        }
        for (int code : new int[] {33, 'n', ';', 126}) {
            Check.badState("append(" + code + ") to 60 characters", () -> x.append(code));
            Check.same("count(12)", 60, x.count(12));
        }
        Check.same("clearBuffer()", 60, x.clearBuffer());
        Check.same("append() after clearBuffer()", 1, x.append('n'));
    }

    private static void fullAgainAfterExecute() {
        Check.sentence("Throws IllegalStateException if the buffer holds 60 characters: until it is cleared");
        String orders = "a1" + ";n".repeat(29);
        CloudBeams x = Skies.typed(orders);
        Check.badState("append() to 60 characters", () -> x.append('n'));
        Check.same("execute() of 60 characters", 30, x.execute());
        Check.same("count(12)", 0, x.count(12));
        Check.type(x, orders);
        Check.same("count(12), full again", 60, x.count(12));
        Check.badState("append() to 60 characters again", () -> x.append('n'));
    }

    private static void emptyAtFirst() {
        Check.sentence("It is empty at first");
        CloudBeams x = new CloudBeams();
        Check.same("count(12)", 0, x.count(12));
        Check.same("firstError()", 0, x.firstError());
        Check.badArgument("execute()", x::execute);
        Check.same("clearBuffer()", 0, x.clearBuffer());
    }

    private static void lengthThatItHad() {
        Check.sentence("Promise 11: Returns the length that it had");
        for (int length = 0; length <= 60; length++) {
            CloudBeams x = Skies.typed("?".repeat(length));
            Check.same("clearBuffer() of " + length, length, x.clearBuffer());
            Check.same("count(12) after clearBuffer()", 0, x.count(12));
            Check.same("clearBuffer() again", 0, x.clearBuffer());
        }
    }

    private static void nothingIsLeftOver() {
        Check.sentence("Promise 11: Clears the buffer: the characters before do not count");
        CloudBeams x = Skies.typed("c300*20;a?");
        x.clearBuffer();
        Check.same("firstError() of the cleared buffer", 0, x.firstError());
        Check.type(x, "n");
        Check.same("firstError() of n", 1, x.firstError());
        Check.same("execute() of n", 1, x.execute());
        Check.type(x, "b3");
        Check.same("execute() of b3", 1, x.execute());
        Check.same("the layers", 0, x.count(0));
        Check.same("the nights", 1, x.count(9));
        Check.same("the slope of light 1", 3, x.count(2));
    }

    /** Holds firstError() and, of texts with an error or without an end, execute() to the words that are spelled out. */
    private static void text(String text) {
        CloudBeams x = Skies.typed(text);
        Check.same("firstError() of " + text, OrderWords.firstError(text), x.firstError());
        Check.same("count(12) after firstError()", text.length(), x.count(12));
        if (!OrderWords.isComplete(text)) {
            Check.badArgument("execute() of " + text, x::execute);
            Check.same("count(12) after execute() of " + text, text.length(), x.count(12));
            Check.same("count(11) after execute() of " + text, 0, x.count(11));
        } else {
            Check.same("execute() of " + text + " is taken", 1, x.execute() >= 0 ? 1 : 0);
            Check.same("count(12) after execute() of " + text, 0, x.count(12));
            Check.same("count(11) after execute() of " + text, 1, x.count(11));
        }
    }

    private static void texts(String... texts) {
        for (String text : texts) {
            text(text);
        }
    }

    private static void ordersWithSemicolons() {
        Check.sentence("An order text is one or more orders with \";\" between them");
        texts("", ";", "n", "n;", ";n", "n;;", "n;;n", "n;n", "n;n;", ";;", "nn", "n,n", "n:n");
        texts("x0;", "x0;;x0", "a;b", "c50*1;;");
        texts("a5b5", "x0x0", "c50*1c50*1", "a5n", "nx0", "n;a5;x0;b-5;c50*1", "n;a5;x0;b-5;c50*");
    }

    private static void heights() {
        Check.sentence("An order is: \"c\", a height from 50 to 3000, \"*\", and a thickness from 1 to 100");
        for (int height = 0; height <= 3200; height++) {
            text("c" + height + "*7");
        }
        texts("c", "C50*1", "c*", "c*1", "c-50*1", "c+50*1", "c50", "c50;", "c50-1", "c50**1", "c50*1*");
        texts("c9999", "c10000", "c29999", "c30000", "c5000", "c3000*", "c2147483648*1", "c4294967346*1");
    }

    private static void thicknesses() {
        Check.sentence("and a thickness from 1 to 100 (as layer())");
        for (int thickness = 0; thickness <= 1200; thickness++) {
            text("c300*" + thickness);
        }
        texts("c300*", "c300*;", "c300*-1", "c300*+1", "c300*x", "c300*4294967297", "c300*100;", "c300*1000");
    }

    private static void slopes() {
        Check.sentence("\"a\" or \"b\" and a slope, a number from 0 to 30, perhaps with \"-\" in front");
        for (String light : new String[] {"a", "b"}) {
            for (int slope = 0; slope <= 400; slope++) {
                text(light + slope);
                text(light + "-" + slope);
            }
            texts(light, light + ";", light + "-", light + "-;", light + "--1", light + "+1", light + "1-", light + "-1-");
            texts(light + "*", light + "5*", light + "5.", light + "4294967296");
        }
    }

    private static void minusZero() {
        Check.sentence("(\"-0\" is allowed, and means 0; as aim() of the light 0 or 1)");
        CloudBeams x = Skies.typed("a-0;b-0");
        Check.same("execute()", 2, x.execute());
        Check.same("the slope of light 0", 0, x.count(1));
        Check.same("the slope of light 1", 0, x.count(2));
        for (int slope = 0; slope <= 30; slope++) {
            CloudBeams y = Skies.typed("a" + slope + ";b-" + slope);
            Check.same("execute()", 2, y.execute());
            Check.same("the slope of light 0", slope, y.count(1));
            Check.same("the slope of light 1", -slope, y.count(2));
            CloudBeams z = Skies.typed("b" + slope + ";a-" + slope);
            Check.same("execute()", 2, z.execute());
            Check.same("the slope of light 1", slope, z.count(2));
            Check.same("the slope of light 0", -slope, z.count(1));
        }
    }

    private static void layers() {
        Check.sentence("\"x\" and a layer, a digit from 0 to 5 (as clear())");
        for (int layer = 0; layer <= 120; layer++) {
            text("x" + layer);
        }
        texts("x", "x;", "x-", "x-1", "x*", "x0*", "X0", "xx");
        for (int layer = 0; layer <= 5; layer++) {
            CloudBeams x = Skies.full();
            Check.type(x, "x" + layer);
            Check.same("execute() of x" + layer, 1, x.execute());
            Check.outOfBounds("the sixth layer", () -> x.layerOf(5, 0));
            Check.same("the layer that goes", layer == 0 ? 200 : 100, x.layerOf(0, 0));
            Check.same("the last layer", layer == 5 ? 500 : 600, x.layerOf(4, 0));
        }
    }

    private static void night() {
        Check.sentence("or \"n\" (as log())");
        texts("n", "N", "n0", "n1", "n-", "n*", "n;n", "nn");
        CloudBeams x = Skies.typed("n;n;n");
        Check.same("execute()", 3, x.execute());
        Check.same("the nights", 3, x.count(9));
    }

    private static void leadingZeros() {
        Check.sentence("Numbers have no leading zeros");
        texts("c0", "c00", "c050", "c0050*1", "c50*0", "c50*01", "c50*00", "c50*001", "c500*010", "c100*10");
        texts("a0", "a00", "a01", "a05", "a10", "a000", "a-00", "a-01", "a-05", "a-030");
        texts("b00", "b010", "b-00", "b-010", "x00", "x01", "x05", "a0;b0");
    }

    private static void everySignEverywhere() {
        Check.sentence("The first error is the first character that no order text can have after the characters before it");
        String[] befores = {"", "n", "n;", "c", "c3", "c30", "c300", "c3000", "c301", "c4", "c49", "c50",
            "c50*", "c50*1", "c50*10", "c50*100", "c50*11", "c50*9", "a", "a-", "a0", "a-0", "a1", "a3", "a30", "a4",
            "b-3", "b29", "x", "x0", "x5", "x5;", "n;c", "a5;b"};
        for (String before : befores) {
            for (char sign = 33; sign <= 126; sign++) {
                text(before + sign);
            }
        }
    }

    /** All texts of five signs out of eleven, so that most orders, and most ends of them, are there. */
    private static void allShortTexts() {
        Check.sentence("The first error: of all short texts");
        String signs = "cabxn*;-035";
        for (int code = 0; code < 11 * 11 * 11 * 11 * 11; code++) {
            char[] text = new char[5];
            int rest = code;
            for (int i = 0; i < text.length; i++) {
                text[i] = signs.charAt(rest % 11);
                rest /= 11;
            }
            text(new String(text));
        }
    }

    private static void errorsStay() {
        Check.sentence("the index of the first character: what comes after it does not count");
        texts("cx", "cx300*1", "?", "??", "n?;n", "n;?n;n", "a5;;b5", "a31;b31", "c49*1;n", "c50*0;n");
        CloudBeams x = Skies.typed("a5?");
        for (char sign : ";n;c50*1".toCharArray()) {
            x.append(sign);
            Check.same("firstError()", 2, x.firstError());
        }
    }

    private static void lengthWithoutError() {
        Check.sentence("Promise 12: the length of the buffer if there is no error (also if the text is not complete)");
        CloudBeams x = new CloudBeams();
        for (int length = 0; length < WHOLE.length(); length++) {
            Check.same("firstError() of " + WHOLE.substring(0, length), length, x.firstError());
            x.append(WHOLE.charAt(length));
        }
        Check.same("firstError() of " + WHOLE, 58, x.firstError());
        x.append('1');
        Check.same("firstError() with an error as the 59th character", 58, x.firstError());
        x.append('0');
        Check.same("firstError() with an error as the 59th of 60 characters", 58, x.firstError());
    }

    private static void errorAtTheEnd() {
        Check.sentence("Promise 12: Returns its index: 0 to 59");
        String orders = "n;".repeat(30);
        for (int index = 0; index < 60; index++) {
            Check.same("firstError() with an error at " + index, index,
                Skies.typed(orders.substring(0, index) + "?" + orders.substring(index + 1)).firstError());
        }
        Check.same("firstError() of 60 characters, not complete", 60, Skies.typed(orders).firstError());
        Check.same("firstError() of 60 characters, complete", 60, Skies.typed("a1;" + orders.substring(0, 57)).firstError());
    }

    private static void notComplete() {
        Check.sentence("Promise 13: Throws IllegalArgumentException if the buffer is not a complete order text");
        texts("", "n;", "c", "c3", "c300", "c300*", "a", "a-", "b", "b-", "x");
        texts("n;a", "a5;b", "n;x", "n;c50", "n;c50*", "?", "n;?", "nn");
        CloudBeams x = Skies.typed("n;".repeat(30));
        Check.badArgument("execute() of 60 characters, not complete", x::execute);
        Check.same("count(12)", 60, x.count(12));
        Check.same("the nights", 0, x.count(9));
        Check.same("the saved states", 0, x.count(11));
    }

    private static void executed(String when, CloudBeams x, String text, int due) {
        int saved = x.count(11);
        Check.type(x, text);
        Check.same("execute() of " + text + " " + when, due, x.execute());
        Check.same("the buffer after " + text, 0, x.count(12));
        Check.same("the saved states after " + text, Math.min(6, saved + 1), x.count(11));
    }

    private static void howManyAreExecuted() {
        Check.sentence("Promise 13: Returns how many orders are executed");
        executed("alone", new CloudBeams(), "n", 1);
        executed("alone", new CloudBeams(), "a-30", 1);
        executed("alone", new CloudBeams(), "c3000*100", 1);
        executed("with the most orders", new CloudBeams(), "a1" + ";n".repeat(29), 30);
        executed("with seven kinds", new CloudBeams(), "c50*1;a1;b-1;n;x0;a-1;b1", 7);
    }

    private static void upToTheFirstThatThrows() {
        Check.sentence("up to the first one whose method would throw an exception");
        CloudBeams x = new CloudBeams();
        executed("of a clear sky", x, "x0", 0);
        executed("of a clear sky", x, "x0;n", 0);
        executed("of a clear sky", x, "n;x0;n", 1);
        Check.same("the nights", 1, x.count(9));
        executed("with a layer", x, "c300*20;x1;n", 1);
        executed("with a height that is there", x, "c300*21;n", 0);
        Check.layers("after refused orders", x, 300, 20);
        executed("at the end", x, "a1;b2;c300*1", 2);
        Check.same("the slope of light 0", 1, x.count(1));
        Check.same("the slope of light 1", 2, x.count(2));
        Check.same("the nights", 1, x.count(9));
    }

    private static void upToTheSeventhLayer() {
        Check.sentence("up to the first one whose method would throw: layer() of a full sky, clear() of no layer");
        CloudBeams x = new CloudBeams();
        executed("up to seven layers", x, "c51*1;c52*1;c53*1;c54*1;c55*1;c56*1;c57*1;n", 6);
        Check.layers("of six", x, 51, 1, 52, 1, 53, 1, 54, 1, 55, 1, 56, 1);
        executed("of a full sky", x, "c57*1", 0);
        executed("after one went", x, "x0;c57*2;c58*1", 2);
        Check.layers("after one went and one came", x, 52, 1, 53, 1, 54, 1, 55, 1, 56, 1, 57, 2);
        executed("of the last layers", x, "x5;x5", 1);
        executed("down to a clear sky", x, "x4;x3;x2;x1;x0;x0", 5);
        Check.same("the layers", 0, x.count(0));
        executed("of a height that went", x, "c56*3;x0;c56*4", 3);
        Check.layers("after a height came again", x, 56, 4);
        Check.same("the nights", 0, x.count(9));
    }

    private static void asOneCall() {
        Check.sentence("Promise 13: Undoable, as one call");
        CloudBeams x = Skies.with(300, 20);
        String before = Answers.ofState(x);
        Check.type(x, "n;a1;b2;x0;c50*1;c60*1;n;n");
        x.execute();
        Check.same("undo()", 1, x.undo());
        Check.sameText("the state after undo()", before, Answers.ofState(x));
        Check.same("undo() again", 0, x.undo());
        Check.same("the layers after undo()", 0, x.count(0));
    }

    private static void nothingExecutedIsUndoable() {
        Check.sentence("it saves the state even if nothing changes: execute() of no order");
        CloudBeams x = Skies.typed("x0");
        Check.same("execute()", 0, x.execute());
        Check.same("the saved states", 1, x.count(11));
        Check.same("undo()", 0, x.undo());
    }

    public static void main(String[] args) {
        codeRange();
        atMostSixty();
        fullAgainAfterExecute();
        emptyAtFirst();
        lengthThatItHad();
        nothingIsLeftOver();
        ordersWithSemicolons();
        heights();
        thicknesses();
        slopes();
        minusZero();
        layers();
        night();
        leadingZeros();
        everySignEverywhere();
        allShortTexts();
        errorsStay();
        lengthWithoutError();
        errorAtTheEnd();
        notComplete();
        howManyAreExecuted();
        upToTheFirstThatThrows();
        upToTheSeventhLayer();
        asOneCall();
        nothingExecutedIsUndoable();
        Check.end();
    }
}
