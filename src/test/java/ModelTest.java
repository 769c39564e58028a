import java.util.Random;

/** Many long runs of calls, each answer compared with the model's; the seeds are fixed, so every run is the same. */
public final class ModelTest {
    private static final int RUNS = 2400;
    private static final int MOST_CALLS = 512;
    private static final int MOST_SIGNS_OF_A_TEXT = 70;
    private static final int MOST_CALLS_OF_A_STEP = MOST_SIGNS_OF_A_TEXT + 10;
    private static final String SIGNS = "cabxn*;-0123456789";
    private static final int[] ODD = {Integer.MIN_VALUE, -1000, -31, -1, 17, 61, 127, 1001, 3001, Integer.MAX_VALUE};

    private static Random random;
    private static int calls;

    private static int below(int bound) {
        return random.nextInt(bound);
    }

    private static int between(int least, int most) {
        return least + below(most - least + 1);
    }

    /** Mostly a fitting number, at times one that is just or far outside. */
    private static int nearly(int least, int most) {
        int kind = below(30);
        if (kind == 0) {
            return ODD[below(ODD.length)];
        }
        if (kind == 1) {
            return below(2) == 0 ? least - 1 : most + 1;
        }
        if (kind == 2) {
            return below(2) == 0 ? least : most;
        }
        return between(least, most);
    }

    private static int someLayer(Model m) {
        return below(12) == 0 ? nearly(0, 6) : below(Math.max(1, m.count(0)));
    }

    /** Heights near the one where the beams meet, so that readings are common, right and false ones. */
    private static int someHeight(Model m) {
        int meeting = m.count(4);
        if (meeting > 0 && below(3) > 0) {
            return meeting + between(-25, 25);
        }
        return below(2) == 0 ? nearly(50, 3000) : between(50, 400);
    }

    private static int someThickness() {
        return below(3) == 0 ? nearly(1, 100) : between(1, 20);
    }

    private static int someValue(int setting) {
        int[][] ranges = {{50, 1000}, {0, 1000}, {1, 500}, {0, 100}};
        if (setting < 0 || setting > 3) {
            return below(100);
        }
        if (setting == 2 && below(3) > 0) {
            return between(1, 60);
        }
        return nearly(ranges[setting][0], ranges[setting][1]);
    }

    private static String someOrder() {
        switch (below(9)) {
            case 0:
            case 1:
                return "c" + between(50, 3000) + "*" + between(1, 100);
            case 2:
                return "c" + nearly(50, 400) + "*" + nearly(1, 100);
            case 3:
                return "a" + (below(2) == 0 ? "-" : "") + nearly(0, 30);
            case 4:
                return "b" + (below(2) == 0 ? "-" : "") + nearly(0, 30);
            case 5:
                return "x" + nearly(0, 5);
            case 6:
                return "x0";
            default:
                return "n";
        }
    }

    private static String someText() {
        StringBuilder text = new StringBuilder(someOrder());
        for (int orders = below(6); orders > 0; orders--) {
            text.append(';').append(someOrder());
        }
        if (below(4) == 0) {
            text.setCharAt(below(text.length()), SIGNS.charAt(below(SIGNS.length())));
        }
        if (below(4) == 0) {
            text.setLength(below(text.length() + 1));
        }
        text.setLength(Math.min(text.length(), MOST_SIGNS_OF_A_TEXT));
        return text.toString();
    }

    private static void both(String call, Check.Call model, Check.Call program) {
        calls++;
        Check.sameText(call, Check.outcome(model), Check.outcome(program));
    }

    private static void change(String run, Model m, CloudBeams x) {
        int light = below(25) == 0 ? nearly(0, 1) : below(2);
        int layer = someLayer(m);
        int height = someHeight(m);
        int thickness = someThickness();
        int slope = nearly(-30, 30);
        int setting = below(25) == 0 ? nearly(0, 3) : below(4);
        int value = someValue(setting);
        int slot = nearly(0, 1);
        switch (below(26)) {
            case 0:
            case 1:
            case 2:
            case 3:
            case 4:
            case 5:
                both(run + "layer(" + height + ", " + thickness + ")",
                    () -> m.layer(height, thickness), () -> x.layer(height, thickness));
                break;
            case 6:
                both(run + "clear(" + layer + ")", () -> m.clear(layer), () -> x.clear(layer));
                break;
            case 7:
                both(run + "clearThin(" + thickness + ")", () -> m.clearThin(thickness), () -> x.clearThin(thickness));
                break;
            case 8:
            case 9:
            case 10:
                both(run + "aim(" + light + ", " + slope + ")", () -> m.aim(light, slope), () -> x.aim(light, slope));
                break;
            case 11:
                both(run + "turn(" + light + ")", () -> m.turn(light), () -> x.turn(light));
                if (below(4) > 0) {
                    both(run + "turn(" + light + ")", () -> m.turn(light), () -> x.turn(light));
                }
                break;
            case 12:
            case 13:
                both(run + "set(" + setting + ", " + value + ")",
                    () -> m.set(setting, value), () -> x.set(setting, value));
                break;
            case 14:
            case 15:
            case 16:
                both(run + "scan(" + light + ", " + layer + ")",
                    () -> m.scan(light, layer), () -> x.scan(light, layer));
                break;
            case 17:
            case 18:
            case 19:
                both(run + "log()", m::log, x::log);
                break;
            case 20:
            case 21:
            case 22:
                both(run + "undo()", m::undo, x::undo);
                break;
            case 23:
                both(run + "keep(" + slot + ")", () -> m.keep(slot), () -> x.keep(slot));
                break;
            case 24:
                both(run + "goBack(" + slot + ")", () -> m.goBack(slot), () -> x.goBack(slot));
                break;
            default:
                sendText(run, m, x);
        }
    }

    private static void sendText(String run, Model m, CloudBeams x) {
        if (below(4) > 0) {
            both(run + "clearBuffer()", m::clearBuffer, x::clearBuffer);
        }
        for (char sign : someText().toCharArray()) {
            both(run + "append(" + sign + ")", () -> m.append(sign), () -> x.append(sign));
        }
        if (below(20) == 0) {
            int code = nearly(33, 126);
            both(run + "append(" + code + ")", () -> m.append(code), () -> x.append(code));
        }
        both(run + "firstError()", m::firstError, x::firstError);
        both(run + "execute()", m::execute, x::execute);
        both(run + "count(12)", () -> m.count(12), () -> x.count(12));
    }

    private static void ask(String run, Model m, CloudBeams x) {
        int light = below(25) == 0 ? nearly(0, 1) : below(2);
        int layer = someLayer(m);
        int what = nearly(0, 4);
        int way = nearly(0, 1);
        int ago = nearly(0, 8);
        int number = nearly(0, 16);
        switch (below(9)) {
            case 0:
                both(run + "layerOf(" + layer + ", " + what + ")",
                    () -> m.layerOf(layer, what), () -> x.layerOf(layer, what));
                break;
            case 1:
                both(run + "spot(" + light + ", " + layer + ", " + what + ")",
                    () -> m.spot(light, layer, what), () -> x.spot(light, layer, what));
                break;
            case 2:
                both(run + "reading(" + what + ")", () -> m.reading(what), () -> x.reading(what));
                break;
            case 3:
                both(run + "night(" + ago + ", " + what + ")", () -> m.night(ago, what), () -> x.night(ago, what));
                break;
            case 4:
                both(run + "count(" + number + ")", () -> m.count(number), () -> x.count(number));
                break;
            case 5:
                both(run + "nearest(" + light + ", " + layer + ", " + way + ")",
                    () -> m.nearest(light, layer, way), () -> x.nearest(light, layer, way));
                break;
            case 6:
                both(run + "ifScanned(" + light + ", " + what + ")",
                    () -> m.ifScanned(light, what), () -> x.ifScanned(light, what));
                break;
            case 7:
                if (below(4) == 0) {
                    both(run + "clearEnough()", m::clearEnough, x::clearEnough);
                }
                break;
            default:
                calls++;
                Check.sameFloat(run + "meanError()", m.meanError(), x.meanError());
        }
    }

    public static void main(String[] args) {
        for (int run = 1; run <= RUNS; run++) {
            random = new Random(run);
            Model m = new Model();
            CloudBeams x = new CloudBeams();
            calls = 0;
            for (int step = 1; calls <= MOST_CALLS - MOST_CALLS_OF_A_STEP; step++) {
                String name = "run " + run + ", step " + step + ": ";
                change(name, m, x);
                ask(name, m, x);
            }
        }
        Check.end();
    }
}
