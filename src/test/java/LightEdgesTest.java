/** Boundary cases, a test for each sentence: "Terms: Lights and beams, Settings", promises 5 to 8 and 22. */
public final class LightEdgesTest {
    private static final int MIN = Integer.MIN_VALUE;
    private static final int MAX = Integer.MAX_VALUE;
    private static final int[] NO_LIGHTS = {MIN, -1, 2, 3, MAX};

    private static void lightsStand() {
        Check.sentence("the light 0 at 0, the light 1 at the base (the setting 0)");
        for (int base : new int[] {50, 300, 1000}) {
            CloudBeams x = Skies.with(3000, 10);
            Skies.aimBoth(x, 0, 0);
            x.set(0, base);
            Check.same("the place of light 0, base " + base, 0, x.spot(0, 0, 0));
            Check.same("the place of light 1, base " + base, base, x.spot(1, 0, 0));
        }
    }

    private static void place(int light, int slope, int height, int base, int due) {
        CloudBeams x = Skies.with(height, 10);
        x.aim(light, slope);
        x.set(0, base);
        Check.same("the place of light " + light + " at " + height + ", slope " + slope + ", base " + base,
            due, x.spot(light, 0, 0));
    }

    private static void places() {
        Check.sentence("at a height h it is at the place of its light plus slope * h / 10");
        place(0, -30, 3000, 1000, -9000);
        place(0, 30, 3000, 1000, 9000);
        place(1, -30, 3000, 50, -8950);
        place(1, -30, 3000, 1000, -8000);
        place(1, 30, 3000, 50, 9050);
        place(1, 30, 3000, 1000, 10000);
        place(0, -30, 50, 300, -150);
        place(0, 1, 50, 300, 5);
        place(1, -1, 50, 300, 295);
        place(0, 0, 3000, 300, 0);
    }

    private static void placesRound() {
        Check.sentence("Divisions round toward zero: places");
        place(0, 1, 59, 300, 5);
        place(0, -1, 59, 300, -5);
        place(0, -1, 51, 300, -5);
        place(1, -1, 59, 300, 295);
        place(1, -1, 51, 300, 295);
        place(1, 1, 59, 300, 305);
        place(0, -29, 2999, 300, -8697);
        place(0, 29, 2999, 300, 8697);
    }

    private static void slopeRange() {
        Check.sentence("A beam has a slope from -30 to 30");
        for (int light = 0; light <= 1; light++) {
            int told = light;
            CloudBeams x = new CloudBeams();
            for (int slope : new int[] {-30, -29, 0, 29, 30}) {
                x.aim(light, slope);
                Check.same("the slope of light " + light, slope, x.count(1 + light));
            }
            for (int slope : new int[] {MIN, -31, 31, MAX}) {
                Check.badArgument("aim(" + light + ", " + slope + ")", () -> x.aim(told, slope));
                Check.same("the slope of light " + light + " after aim(.., " + slope + ")", 30, x.count(1 + light));
            }
        }
    }

    private static void atFirst() {
        Check.sentence("At first the light 0 has the slope 5 and the light 1 the slope -5; both are on at first");
        CloudBeams x = new CloudBeams();
        Check.same("count(1)", 5, x.count(1));
        Check.same("count(2)", -5, x.count(2));
        Check.same("count(3)", 3, x.count(3));
        Check.same("aim(0, 0)", 5, x.aim(0, 0));
        Check.same("aim(1, 0)", -5, x.aim(1, 0));
        Check.same("turn(0)", 0, x.turn(0));
        Check.same("turn(1)", 0, x.turn(1));
    }

    private static void meet(int slope0, int slope1, int base, int due) {
        CloudBeams x = new CloudBeams();
        Skies.aimBoth(x, slope0, slope1);
        x.set(0, base);
        String beams = "slopes " + slope0 + " and " + slope1 + ", base " + base;
        Check.same("count(4), " + beams, due, x.count(4));
        x.turn(0);
        Check.same("count(4), light 0 off, " + beams, due, x.count(4));
        x.turn(1);
        Check.same("count(4), both off, " + beams, due, x.count(4));
    }

    private static void lightsMeet() {
        Check.sentence("The light 0 meets the light 1 if its slope is greater than that of the light 1");
        for (int slope : new int[] {-30, -1, 0, 1, 30}) {
            meet(slope, slope, 300, CloudBeams.NONE);
        }
        meet(-30, -29, 300, CloudBeams.NONE);
        meet(29, 30, 300, CloudBeams.NONE);
        meet(-30, 30, 300, CloudBeams.NONE);
        meet(-1, 0, 300, CloudBeams.NONE);
        meet(-29, -30, 300, 3000);
        meet(30, 29, 300, 3000);
        meet(1, 0, 300, 3000);
        meet(0, -1, 300, 3000);
    }

    private static void meetingHeight() {
        Check.sentence("the height at which they meet is 10 * base / (slope of the light 0 minus slope of the light 1)");
        meet(30, -30, 50, 8);
        meet(30, -30, 1000, 166);
        meet(30, -30, 60, 10);
        meet(30, -30, 59, 9);
        meet(1, 0, 50, 500);
        meet(1, 0, 1000, 10000);
        meet(5, -2, 300, 428);
        meet(-3, -10, 299, 427);
    }

    private static void noSuchLight() {
        Check.sentence("Promises 5, 6, 8, 22: Throws IndexOutOfBoundsException if there is no such light");
        CloudBeams x = Skies.with(300, 10);
        String before = Answers.of(x);
        for (int light : NO_LIGHTS) {
            Check.outOfBounds("aim(" + light + ", 0)", () -> x.aim(light, 0));
            Check.outOfBounds("turn(" + light + ")", () -> x.turn(light));
            Check.outOfBounds("scan(" + light + ", 0)", () -> x.scan(light, 0));
            Check.outOfBounds("nearest(" + light + ", 0, 0)", () -> x.nearest(light, 0, 0));
            Check.outOfBounds("nearest(" + light + ", 0, 1)", () -> x.nearest(light, 0, 1));
        }
        Check.sameText("all answers after refused calls", before, Answers.of(x));
    }

    private static void previousSlope() {
        Check.sentence("Promise 5: Returns the previous slope");
        CloudBeams x = new CloudBeams();
        Check.same("aim(0, -30)", 5, x.aim(0, -30));
        Check.same("aim(0, 30)", -30, x.aim(0, 30));
        Check.same("aim(0, 30) again", 30, x.aim(0, 30));
        Check.same("aim(1, 30)", -5, x.aim(1, 30));
        Check.same("aim(1, -30)", 30, x.aim(1, -30));
        Check.same("aim(1, 0)", -30, x.aim(1, 0));
        Check.same("aim(1, 0) again", 0, x.aim(1, 0));
        Check.same("the slope of the other light", 30, x.count(1));
    }

    private static void onOrOff() {
        Check.sentence("Promise 6: Returns 1 if it is on then, otherwise 0; Promise 21: 3 the lights that are on");
        int[] turned = {0, 1, 0, 1, 1, 0};
        int[] isOn = {0, 0, 1, 1, 0, 0};
        int[] mask = {2, 0, 1, 3, 1, 0};
        CloudBeams x = new CloudBeams();
        for (int i = 0; i < turned.length; i++) {
            Check.same("turn(" + turned[i] + "), call " + i, isOn[i], x.turn(turned[i]));
            Check.same("count(3) after call " + i, mask[i], x.count(3));
        }
    }

    private static void settingRange(String words, int setting, int first, int least, int most) {
        Check.sentence(words);
        CloudBeams x = new CloudBeams();
        Check.same("count(" + (13 + setting) + ") at first", first, x.count(13 + setting));
        int previous = first;
        for (int value : new int[] {least, least + 1, most - 1, most}) {
            Check.same("set(" + setting + ", " + value + ")", previous, x.set(setting, value));
            Check.same("count(" + (13 + setting) + ")", value, x.count(13 + setting));
            previous = value;
        }
        String before = Answers.of(x);
        for (int value : new int[] {MIN, -least - 1, least - 1, most + 1, MAX}) {
            Check.badArgument("set(" + setting + ", " + value + ")", () -> x.set(setting, value));
        }
        Check.sameText("all answers after refused calls", before, Answers.of(x));
    }

    private static void noSuchSetting() {
        Check.sentence("Promise 7: setting: 0 to 3. Throws IndexOutOfBoundsException if there is no such setting");
        CloudBeams x = new CloudBeams();
        String before = Answers.of(x);
        for (int setting : new int[] {MIN, -1, 4, 5, MAX}) {
            Check.outOfBounds("set(" + setting + ", 60)", () -> x.set(setting, 60));
            Check.outOfBounds("set(" + setting + ", -1)", () -> x.set(setting, -1));
        }
        Check.sameText("all answers after refused calls", before, Answers.of(x));
        Check.same("set(0, 60)", 300, x.set(0, 60));
        Check.same("set(3, 60)", 10, x.set(3, 60));
    }

    private static void settingsAreApart() {
        Check.sentence("Promise 7: Changes a setting, and no other");
        int[] values = {60, 61, 62, 63};
        CloudBeams x = new CloudBeams();
        int[] due = {300, 100, 20, 10};
        for (int setting = 0; setting < 4; setting++) {
            x.set(setting, values[setting]);
            due[setting] = values[setting];
            for (int other = 0; other < 4; other++) {
                Check.same("the setting " + other + " after set(" + setting + ", ..)", due[other], x.count(13 + other));
            }
        }
    }

    private static void scanWithoutLayer() {
        Check.sentence("Promise 8: Throws IndexOutOfBoundsException if there is no such layer");
        CloudBeams clear = new CloudBeams();
        CloudBeams full = Skies.full();
        String before = Answers.of(full);
        for (int light = 0; light <= 1; light++) {
            int told = light;
            for (int layer : new int[] {MIN, -1, 0, 1, 5, 6, MAX}) {
                Check.outOfBounds("scan(" + light + ", " + layer + ") of a clear sky", () -> clear.scan(told, layer));
            }
            for (int layer : new int[] {MIN, -1, 6, MAX}) {
                Check.outOfBounds("scan(" + light + ", " + layer + ") of six", () -> full.scan(told, layer));
            }
        }
        Check.sameText("all answers of a clear sky", Answers.of(new CloudBeams()), Answers.of(clear));
        Check.sameText("all answers of six layers", before, Answers.of(full));
        Check.same("scan(0, 5) of six", 0, full.scan(0, 5));
        Check.same("the slope of light 0", 0, full.count(1));
        Check.same("scan(1, 0) of six", 0, full.scan(1, 0));
        Check.same("the slope of light 1", -30, full.count(2));
    }

    /** Layer, base, the light and the other one's slope; then the slope that is due and the size of the distance. */
    private static void scanned(int height, int base, int light, int other, int slope, int size) {
        CloudBeams x = Skies.with(height, 10);
        x.set(0, base);
        x.aim(1 - light, other);
        String when = " at " + height + ", base " + base + ", the other slope " + other;
        for (int lit = 0; lit < 4; lit++) {
            x.turn(lit % 2);
            Check.same("nearest(" + light + ", 0, 0)" + when, slope + 100, x.nearest(light, 0, 0));
            Check.same("nearest(" + light + ", 0, 1)" + when, slope + 100, x.nearest(light, 0, 1));
        }
        Check.same("scan(" + light + ", 0)" + when, size, x.scan(light, 0));
        Check.same("the slope of light " + light + when, slope, x.count(1 + light));
        Check.same("the slope of the other light" + when, other, x.count(2 - light));
    }

    private static void outOfReach() {
        Check.sentence("Promise 22: the slope that brings its place nearest: -30 to 30 are all that there are");
        scanned(50, 1000, 0, 30, 30, 1000);
        scanned(50, 1000, 1, -30, -30, 1000);
        scanned(50, 1000, 0, -30, 30, 700);
        scanned(50, 1000, 1, 30, -30, 700);
        scanned(100, 310, 0, 0, 30, 10);
        scanned(100, 301, 0, 0, 30, 1);
        scanned(100, 300, 0, 0, 30, 0);
        scanned(100, 299, 0, 0, 30, 1);
        scanned(100, 290, 0, 0, 29, 0);
        scanned(100, 310, 1, 0, -30, 10);
        scanned(100, 301, 1, 0, -30, 1);
        scanned(100, 300, 1, 0, -30, 0);
        scanned(100, 299, 1, 0, -30, 1);
        scanned(100, 290, 1, 0, -29, 0);
    }

    private static void lowestOfSeveral() {
        Check.sentence("Promise 22: of several the lowest slope");
        scanned(100, 295, 0, 0, 29, 5);
        scanned(100, 295, 1, 0, -30, 5);
        scanned(100, 105, 0, -5, 5, 5);
        scanned(100, 105, 1, 5, -6, 5);
        scanned(100, 55, 0, -5, 0, 5);
        scanned(100, 55, 0, -6, -1, 5);
        scanned(100, 55, 1, 5, -1, 5);
        scanned(100, 55, 1, 6, 0, 5);
        scanned(100, 104, 0, -5, 5, 4);
        scanned(100, 106, 0, -5, 6, 4);
        scanned(3000, 450, 0, 0, 1, 150);
        scanned(3000, 450, 1, 0, -2, 150);
    }

    private static void negativeDistance() {
        Check.sentence("Promise 8: Returns the size of the distance of the two places then");
        scanned(3000, 50, 0, 0, 0, 50);
        scanned(3000, 50, 1, 0, 0, 50);
        scanned(3000, 200, 0, 0, 1, 100);
        scanned(3000, 200, 1, 0, -1, 100);
        scanned(3000, 149, 1, 30, 30, 149);
        scanned(3000, 151, 1, 30, 29, 149);
    }

    private static void nearestWithoutLayer() {
        Check.sentence("Promise 22: Throws IndexOutOfBoundsException if there is no such layer");
        CloudBeams clear = new CloudBeams();
        CloudBeams full = Skies.full();
        for (int way = 0; way <= 1; way++) {
            int told = way;
            for (int layer : new int[] {MIN, -1, 0, 5, MAX}) {
                Check.outOfBounds("nearest(1, " + layer + ", way) of a clear sky", () -> clear.nearest(1, layer, told));
            }
            for (int layer : new int[] {MIN, -1, 6, MAX}) {
                Check.outOfBounds("nearest(1, " + layer + ", way) of six", () -> full.nearest(1, layer, told));
            }
            Check.same("nearest(1, 5, way) of six", 100, full.nearest(1, 5, way));
            Check.same("nearest(1, 0, way) of six", 75, full.nearest(1, 0, way));
        }
    }

    private static void neitherWay() {
        Check.sentence("Promise 22: Throws IllegalArgumentException if way is neither 0 nor 1");
        CloudBeams x = Skies.full();
        for (int way : new int[] {MIN, -1, 2, 3, MAX}) {
            Check.badArgument("nearest(0, 0, " + way + ")", () -> x.nearest(0, 0, way));
            Check.badArgument("nearest(1, 5, " + way + ")", () -> x.nearest(1, 5, way));
        }
    }

    /** All bases at the lowest height and at odd ones, where a step of the slope is small and places round. */
    private static void bothWaysAgree() {
        Check.sentence("Promise 22: way 1: found by computing (the result is the same)");
        for (int height : new int[] {50, 51, 53, 57, 59, 61, 99, 2999, 3000}) {
            for (int base = 50; base <= 1000; base++) {
                CloudBeams x = Skies.with(height, 10);
                x.set(0, base);
                Skies.aimBoth(x, base % 61 - 30, base % 59 - 29);
                String when = " at " + height + ", base " + base;
                Check.same("nearest(0, 0, 1)" + when, x.nearest(0, 0, 0), x.nearest(0, 0, 1));
                Check.same("nearest(1, 0, 1)" + when, x.nearest(1, 0, 0), x.nearest(1, 0, 1));
            }
        }
    }

    public static void main(String[] args) {
        lightsStand();
        places();
        placesRound();
        slopeRange();
        atFirst();
        lightsMeet();
        meetingHeight();
        noSuchLight();
        previousSlope();
        onOrOff();
        settingRange("0: the base, 50 to 1000, at first 300", 0, 300, 50, 1000);
        settingRange("1: the haze, 0 to 1000, at first 100", 1, 100, 0, 1000);
        settingRange("2: the least brightness, 1 to 500, at first 20", 2, 20, 1, 500);
        settingRange("3: the closeness, 0 to 100, at first 10", 3, 10, 0, 100);
        noSuchSetting();
        settingsAreApart();
        scanWithoutLayer();
        outOfReach();
        lowestOfSeveral();
        negativeDistance();
        nearestWithoutLayer();
        neitherWay();
        bothWaysAgree();
        Check.end();
    }
}
