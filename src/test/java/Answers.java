/** All that an object tells: every query's answer as one text. */
final class Answers {
    private Answers() {
    }

    /** The saved states and the buffer included: 194 calls, so an object bears two of these beside its other calls. */
    static String of(CloudBeams x) {
        StringBuilder told = new StringBuilder(ofState(x));
        add(told, "savedStates", () -> x.count(11));
        add(told, "length", () -> x.count(12));
        add(told, "firstError", x::firstError);
        return told.toString();
    }

    /** What undo and snapshots bring back. */
    static String ofState(CloudBeams x) {
        StringBuilder told = new StringBuilder();
        addCounts(told, x);
        addLayers(told, x);
        for (int what = 0; what <= 3; what++) {
            int asked = what;
            add(told, "reading " + what, () -> x.reading(asked));
        }
        addNights(told, x);
        addWhatWouldBe(told, x);
        return told.toString();
    }

    private static void add(StringBuilder told, String call, Check.Call it) {
        told.append(call).append('=').append(Check.outcome(it)).append(' ');
    }

    private static void addCounts(StringBuilder told, CloudBeams x) {
        for (int what = 0; what <= 16; what++) {
            int number = what;
            if (what != 11 && what != 12) {
                add(told, "count " + what, () -> x.count(number));
            }
        }
    }

    private static void addLayers(StringBuilder told, CloudBeams x) {
        for (int layer = 0; layer <= 6; layer++) {
            int number = layer;
            for (int what = 0; what <= 4; what++) {
                int asked = what;
                if (what <= 3) {
                    add(told, "layerOf " + layer + " " + what, () -> x.layerOf(number, asked));
                }
                add(told, "spot 0 " + layer + " " + what, () -> x.spot(0, number, asked));
                add(told, "spot 1 " + layer + " " + what, () -> x.spot(1, number, asked));
            }
            for (int way = 0; way <= 1; way++) {
                int asked = way;
                add(told, "nearest 0 " + layer + " " + way, () -> x.nearest(0, number, asked));
                add(told, "nearest 1 " + layer + " " + way, () -> x.nearest(1, number, asked));
            }
        }
    }

    private static void addNights(StringBuilder told, CloudBeams x) {
        for (int ago = 0; ago <= 8; ago++) {
            int back = ago;
            for (int what = 0; what <= 3; what++) {
                int asked = what;
                add(told, "night " + ago + " " + what, () -> x.night(back, asked));
            }
        }
    }

    private static void addWhatWouldBe(StringBuilder told, CloudBeams x) {
        for (int light = 0; light <= 1; light++) {
            int number = light;
            for (int what = 0; what <= 3; what++) {
                int asked = what;
                add(told, "ifScanned " + light + " " + what, () -> x.ifScanned(number, asked));
            }
        }
        add(told, "clearEnough", x::clearEnough);
        add(told, "meanError", () -> Float.floatToIntBits(x.meanError()));
    }
}
