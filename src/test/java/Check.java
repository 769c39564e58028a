/** Compares answers with those that are due, and ends a test with the exit code that .ci/run looks at. */
final class Check {
    interface Call {
        long answer();
    }

    private static int wrong = 0;
    private static int checked = 0;
    private static String sentence = "";
    private static int checkedBeforeSentence = 0;

    private Check() {
    }

    /** The words of the document that the next checks stand for: they are told with each wrong answer. */
    static void sentence(String words) {
        endSentence();
        sentence = words;
        checkedBeforeSentence = checked;
    }

    private static void endSentence() {
        if (!sentence.isEmpty() && checked == checkedBeforeSentence) {
            tell("nothing was checked");
        }
    }

    static void same(String call, long due, long got) {
        checked++;
        if (due != got) {
            tell(call + " answered " + got + ", due is " + due);
        }
    }

    static void sameFloat(String call, float due, float got) {
        checked++;
        if (Float.floatToIntBits(due) != Float.floatToIntBits(got)) {
            tell(call + " answered " + got + ", due is " + due);
        }
    }

    static void sameText(String what, String due, String got) {
        checked++;
        if (!due.equals(got)) {
            tell(what + " is '" + got + "', due is '" + due + "'");
        }
    }

    /** The very class is asked for: an exception of a class below it would come from the machine. */
    static void refuses(String call, Class<? extends RuntimeException> due, Call it) {
        checked++;
        try {
            long got = it.answer();
            tell(call + " answered " + got + ", due is " + due.getSimpleName());
        } catch (RuntimeException e) {
            if (e.getClass() != due) {
                tell(call + " threw " + e + ", due is " + due.getSimpleName());
            }
        }
    }

    static void outOfBounds(String call, Call it) {
        refuses(call, IndexOutOfBoundsException.class, it);
    }

    static void badArgument(String call, Call it) {
        refuses(call, IllegalArgumentException.class, it);
    }

    static void badState(String call, Call it) {
        refuses(call, IllegalStateException.class, it);
    }

    /** What a call answers, or the name of the exception that it throws. */
    static String outcome(Call call) {
        try {
            return String.valueOf(call.answer());
        } catch (RuntimeException e) {
            return e.getClass().getSimpleName();
        }
    }

    static void layers(String when, CloudBeams x, int... heightsAndThicknesses) {
        same("the number of layers " + when, heightsAndThicknesses.length / 2, x.count(0));
        for (int i = 0; i < heightsAndThicknesses.length / 2 && i < x.count(0); i++) {
            same("the height of layer " + i + " " + when, heightsAndThicknesses[2 * i], x.layerOf(i, 0));
            same("the thickness of layer " + i + " " + when, heightsAndThicknesses[2 * i + 1], x.layerOf(i, 1));
        }
    }

    private static void tell(String text) {
        wrong++;
        if (wrong <= 50) {
            System.out.println(sentence.isEmpty() ? text : "[" + sentence + "] " + text);
        }
    }

    static void end() {
        endSentence();
        System.out.println(checked + " answers checked, " + wrong + " wrong");
        System.exit(wrong == 0 && checked > 0 ? 0 : 1);
    }

    /** All that the queries tell of an object's state, but for the saved states and the buffer. */
    static String stateOf(CloudBeams x) {
        StringBuilder told = new StringBuilder();
        for (int what = 0; what <= 10; what++) {
            told.append(x.count(what)).append(' ');
        }
        for (int what = 13; what <= 16; what++) {
            told.append(x.count(what)).append(' ');
        }
        int layers = x.count(0);
        for (int layer = 0; layer < layers; layer++) {
            told.append('[').append(x.layerOf(layer, 0)).append(' ').append(x.layerOf(layer, 1)).append(']');
        }
        int nights = x.count(8);
        for (int ago = 0; ago < nights; ago++) {
            told.append('(');
            for (int what = 0; what <= 3; what++) {
                told.append(x.night(ago, what)).append(' ');
            }
            told.append(')');
        }
        return told.toString();
    }

    static void type(CloudBeams x, String text) {
        for (int i = 0; i < text.length(); i++) {
            x.append(text.charAt(i));
        }
    }
}
