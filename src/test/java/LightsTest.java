/** Promises 5 to 8 and 22: aim, turn, set, scan, nearest; and the meeting height of promise 21. */
public final class LightsTest {
    private static void aim() {
        CloudBeams x = new CloudBeams();
        Check.same("aim(0, 30)", 5, x.aim(0, 30));
        Check.same("aim(0, -30)", 30, x.aim(0, -30));
        Check.same("aim(0, -30) again", -30, x.aim(0, -30));
        Check.same("aim(1, 7)", -5, x.aim(1, 7));
        Check.same("the slope of light 0", -30, x.count(1));
        Check.same("the slope of light 1", 7, x.count(2));
        Check.same("the saved states", 4, x.count(11));
        for (int light : new int[] {-1, 2, Integer.MIN_VALUE, Integer.MAX_VALUE}) {
            Check.outOfBounds("aim(" + light + ", 0)", () -> x.aim(light, 0));
            Check.outOfBounds("aim(" + light + ", 31)", () -> x.aim(light, 31));
        }
        for (int slope : new int[] {-31, 31, Integer.MIN_VALUE, Integer.MAX_VALUE}) {
            Check.badArgument("aim(0, " + slope + ")", () -> x.aim(0, slope));
            Check.badArgument("aim(1, " + slope + ")", () -> x.aim(1, slope));
        }
        Check.same("the saved states after refused calls", 4, x.count(11));
        Check.same("the slope of light 0 after refused calls", -30, x.count(1));
        x.undo();
        Check.same("the slope of light 1 after undo()", -5, x.count(2));
    }

    private static void turn() {
        CloudBeams x = new CloudBeams();
        Check.same("turn(1)", 0, x.turn(1));
        Check.same("the lights that are on", 1, x.count(3));
        Check.same("turn(0)", 0, x.turn(0));
        Check.same("the lights that are on", 0, x.count(3));
        Check.same("turn(1) again", 1, x.turn(1));
        Check.same("the lights that are on", 2, x.count(3));
        Check.same("turn(0) again", 1, x.turn(0));
        Check.same("the lights that are on", 3, x.count(3));
        for (int light : new int[] {-1, 2, 32, Integer.MIN_VALUE, Integer.MAX_VALUE}) {
            Check.outOfBounds("turn(" + light + ")", () -> x.turn(light));
        }
        Check.same("the saved states", 4, x.count(11));
        x.undo();
        Check.same("the lights that are on after undo()", 2, x.count(3));
    }

    private static void set() {
        int[] first = {300, 100, 20, 10};
        int[] least = {50, 0, 1, 0};
        int[] most = {1000, 1000, 500, 100};
        for (int s = 0; s < 4; s++) {
            int setting = s;
            CloudBeams x = new CloudBeams();
            Check.same("set to the least, setting " + s, first[s], x.set(s, least[s]));
            Check.same("set to the most, setting " + s, least[s], x.set(s, most[s]));
            Check.same("the setting " + s, most[s], x.count(13 + s));
            for (int wrong : new int[] {least[s] - 1, most[s] + 1, Integer.MIN_VALUE, Integer.MAX_VALUE}) {
                Check.badArgument("set(" + s + ", " + wrong + ")", () -> x.set(setting, wrong));
            }
            Check.same("the setting " + s + " after refused calls", most[s], x.count(13 + s));
            for (int other = 0; other < 4; other++) {
                if (other != s) {
                    Check.same("the other setting " + other, first[other], x.count(13 + other));
                }
            }
            Check.same("the saved states", 2, x.count(11));
            x.undo();
            Check.same("the setting " + s + " after undo()", least[s], x.count(13 + s));
            for (int wrong : new int[] {-1, 4, Integer.MIN_VALUE, Integer.MAX_VALUE}) {
                Check.outOfBounds("set(" + wrong + ", 60)", () -> x.set(wrong, 60));
                Check.outOfBounds("set(" + wrong + ", -1)", () -> x.set(wrong, -1));
            }
        }
    }

    private static void meeting() {
        CloudBeams x = new CloudBeams();
        Check.same("the meeting height at first", 300, x.count(4));
        x.aim(0, 2);
        Check.same("the meeting height of 3000 / 7", 428, x.count(4));
        x.aim(1, 2);
        Check.same("beams side by side", CloudBeams.NONE, x.count(4));
        x.aim(1, 3);
        Check.same("beams that part", CloudBeams.NONE, x.count(4));
        x.aim(1, 1);
        x.turn(0);
        x.turn(1);
        Check.same("the meeting height of lights that are off", 3000, x.count(4));
        x.set(0, 1000);
        Check.same("the greatest meeting height", 10000, x.count(4));
    }

    private static void scan() {
        CloudBeams x = new CloudBeams();
        x.layer(100, 5);
        x.layer(500, 50);
        x.aim(0, 10);
        Check.same("scan(0, 1)", 0, x.scan(0, 1));
        Check.same("the slope of light 0", 1, x.count(1));
        Check.same("scan(1, 0)", 0, x.scan(1, 0));
        Check.same("the slope of light 1", -29, x.count(2));
        x.aim(0, -1);
        Check.same("scan(1, 0), out of reach", 10, x.scan(1, 0));
        Check.same("the slope of light 1, out of reach", -30, x.count(2));
        x.aim(0, 1);
        x.turn(0);
        x.turn(1);
        x.aim(1, -7);
        Check.same("scan(1, 1) of lights that are off", 0, x.scan(1, 1));
        Check.same("the slope of light 1", -5, x.count(2));
        Check.same("the saved states", 6, x.count(11));
        x.undo();
        Check.same("the slope of light 1 after undo()", -7, x.count(2));
        String before = Check.stateOf(x);
        for (int wrong : new int[] {-1, 2, Integer.MIN_VALUE, Integer.MAX_VALUE}) {
            Check.outOfBounds("scan(" + wrong + ", 0)", () -> x.scan(wrong, 0));
            Check.outOfBounds("scan(0, " + wrong + ")", () -> x.scan(0, wrong));
        }
        Check.sameText("the state after refused calls", before, Check.stateOf(x));
    }

    private static void nearest() {
        CloudBeams x = new CloudBeams();
        x.layer(50, 1);
        x.layer(333, 1);
        x.layer(3000, 1);
        String before = Check.stateOf(x);
        for (int way = 0; way <= 1; way++) {
            int told = way;
            Check.same("nearest(0, 0), out of reach", 130, x.nearest(0, 0, way));
            Check.same("nearest(1, 0), out of reach", 70, x.nearest(1, 0, way));
            Check.same("nearest(0, 2)", 96, x.nearest(0, 2, way));
            Check.same("nearest(1, 2)", 104, x.nearest(1, 2, way));
            Check.outOfBounds("nearest(2, 0, way)", () -> x.nearest(2, 0, told));
            Check.outOfBounds("nearest(-1, 0, way)", () -> x.nearest(-1, 0, told));
            Check.outOfBounds("nearest(0, 3, way)", () -> x.nearest(0, 3, told));
            Check.outOfBounds("nearest(0, -1, way)", () -> x.nearest(0, -1, told));
        }
        for (int way : new int[] {-1, 2, Integer.MIN_VALUE, Integer.MAX_VALUE}) {
            Check.badArgument("nearest(0, 0, " + way + ")", () -> x.nearest(0, 0, way));
            Check.outOfBounds("nearest(2, 0, " + way + ")", () -> x.nearest(2, 0, way));
            Check.outOfBounds("nearest(0, 3, " + way + ")", () -> x.nearest(0, 3, way));
        }
        Check.sameText("the state after nearest()", before, Check.stateOf(x));
        Check.same("the saved states after nearest()", 3, x.count(11));
    }

    /** At the height 100 a step is 10: with the base 105 two slopes leave the distance 5. */
    private static void lowestOfTwo() {
        CloudBeams x = new CloudBeams();
        x.layer(100, 1);
        x.set(0, 105);
        Check.same("two slopes as near, light 0, way 0", 105, x.nearest(0, 0, 0));
        Check.same("two slopes as near, light 0, way 1", 105, x.nearest(0, 0, 1));
        Check.same("two slopes as near, light 1, way 0", 94, x.nearest(1, 0, 0));
        Check.same("two slopes as near, light 1, way 1", 94, x.nearest(1, 0, 1));
        Check.same("scan(1, 0)", 5, x.scan(1, 0));
        Check.same("the slope of light 1", -6, x.count(2));
    }

    private static void bothWaysAgree() {
        for (int height = 50; height <= 3000; height += height < 120 ? 1 : 37) {
            for (int base = 50; base <= 1000; base += 19) {
                CloudBeams x = Skies.with(height, 10);
                x.set(0, base);
                for (int slope = -30; slope <= 30; slope += 3) {
                    x.aim(0, slope);
                    x.aim(1, slope);
                    String when = " at " + height + ", base " + base + ", slope " + slope;
                    Check.same("nearest(0, 0, 1)" + when, x.nearest(0, 0, 0), x.nearest(0, 0, 1));
                    Check.same("nearest(1, 0, 1)" + when, x.nearest(1, 0, 0), x.nearest(1, 0, 1));
                }
            }
        }
    }

    public static void main(String[] args) {
        aim();
        turn();
        set();
        meeting();
        scan();
        nearest();
        lowestOfTwo();
        bothWaysAgree();
        Check.end();
    }
}
