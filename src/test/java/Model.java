import java.util.ArrayDeque;
import java.util.ArrayList;
import java.util.List;
import java.util.Map;
import java.util.TreeMap;
import java.util.regex.Matcher;
import java.util.regex.Pattern;

/** The document told a second time, with the Java library and no care for speed: CloudBeams is compared with it. */
final class Model {
    static final int NONE = -99999;

    private static final String HEIGHT = "(?:[5-9][0-9]|[1-9][0-9][0-9]|[12][0-9][0-9][0-9]|3000)";
    private static final String THICKNESS = "(?:[1-9]|[1-9][0-9]|100)";
    private static final String SLOPE = "-?(?:[0-9]|[12][0-9]|30)";
    private static final String ORDER = "(?:c" + HEIGHT + "\\*" + THICKNESS + "|[ab]" + SLOPE + "|x[0-5]|n)";
    private static final Pattern TEXT = Pattern.compile(ORDER + "(?:;" + ORDER + ")*");

    private static final class State {
        TreeMap<Integer, Integer> layers = new TreeMap<>();
        int[] slopes = {5, -5};
        boolean[] on = {true, true};
        int[] settings = {300, 100, 20, 10};
        List<int[]> allNights = new ArrayList<>();

        State copy() {
            State c = new State();
            c.layers = new TreeMap<>(layers);
            c.slopes = slopes.clone();
            c.on = on.clone();
            c.settings = settings.clone();
            c.allNights = new ArrayList<>(allNights);
            return c;
        }

        int heightOf(int layer) {
            return new ArrayList<>(layers.keySet()).get(layer);
        }
    }

    private record Spot(int place, int brightness, boolean seen, int comes, int goesOn) {
    }

    private State now = new State();
    private final ArrayDeque<State> saved = new ArrayDeque<>();
    private final State[] slots = new State[2];
    private String buffer = "";

    private static IndexOutOfBoundsException index() {
        return new IndexOutOfBoundsException();
    }

    private static IllegalArgumentException argument() {
        return new IllegalArgumentException();
    }

    private static IllegalStateException state() {
        return new IllegalStateException();
    }

    private static boolean in(int value, int least, int most) {
        return least <= value && value <= most;
    }

    private void save() {
        saved.addLast(now.copy());
        if (saved.size() > 6) {
            saved.removeFirst();
        }
    }

    private void needLight(int light) {
        if (!in(light, 0, 1)) {
            throw index();
        }
    }

    private void needLayer(int layer) {
        if (!in(layer, 0, now.layers.size() - 1)) {
            throw index();
        }
    }

    private int add(int height, int thickness) {
        if (!in(height, 50, 3000) || !in(thickness, 1, 100)) {
            throw argument();
        }
        if (now.layers.size() == 6 || now.layers.containsKey(height)) {
            throw state();
        }
        now.layers.put(height, thickness);
        return now.layers.headMap(height).size();
    }

    int layer(int height, int thickness) {
        State before = now.copy();
        int number = add(height, thickness);
        now = before;
        save();
        return add(height, thickness);
    }

    int clear(int layer) {
        needLayer(layer);
        save();
        int height = now.heightOf(layer);
        now.layers.remove(height);
        return height;
    }

    int clearThin(int thickness) {
        if (!in(thickness, 1, 100)) {
            throw argument();
        }
        save();
        int before = now.layers.size();
        now.layers.values().removeIf(t -> t <= thickness);
        return before - now.layers.size();
    }

    int aim(int light, int slope) {
        needLight(light);
        if (!in(slope, -30, 30)) {
            throw argument();
        }
        save();
        int before = now.slopes[light];
        now.slopes[light] = slope;
        return before;
    }

    int turn(int light) {
        needLight(light);
        save();
        now.on[light] = !now.on[light];
        return now.on[light] ? 1 : 0;
    }

    int set(int setting, int value) {
        if (!in(setting, 0, 3)) {
            throw index();
        }
        int[][] ranges = {{50, 1000}, {0, 1000}, {1, 500}, {0, 100}};
        if (!in(value, ranges[setting][0], ranges[setting][1])) {
            throw argument();
        }
        save();
        int before = now.settings[setting];
        now.settings[setting] = value;
        return before;
    }

    int scan(int light, int layer) {
        needLight(light);
        needLayer(layer);
        save();
        now.slopes[light] = bestSlope(light, layer);
        int height = now.heightOf(layer);
        return Math.abs(place(now, 0, height) - place(now, 1, height));
    }

    int log() {
        save();
        return write();
    }

    private int write() {
        int[] reading = readingOf(now);
        now.allNights.add(reading == null
            ? new int[] {NONE, NONE, NONE, 0}
            : new int[] {reading[0], now.heightOf(reading[1]), reading[2], reading[3]});
        return Math.min(8, now.allNights.size());
    }

    int append(int code) {
        if (!in(code, 33, 126)) {
            throw argument();
        }
        if (buffer.length() == 60) {
            throw state();
        }
        buffer += (char) code;
        return buffer.length();
    }

    int clearBuffer() {
        int length = buffer.length();
        buffer = "";
        return length;
    }

    /** A start of a text can go on if the pattern fits it, or fails only for want of further characters. */
    int firstError() {
        for (int i = 0; i < buffer.length(); i++) {
            Matcher m = TEXT.matcher(buffer.substring(0, i + 1));
            if (!m.matches() && !m.hitEnd()) {
                return i;
            }
        }
        return buffer.length();
    }

    int execute() {
        if (!TEXT.matcher(buffer).matches()) {
            throw argument();
        }
        save();
        int done = 0;
        try {
            for (String order : buffer.split(";")) {
                perform(order);
                done++;
            }
        } catch (IllegalStateException | IndexOutOfBoundsException e) {
            // the order that fails ends the execution
        }
        buffer = "";
        return done;
    }

    private void perform(String order) {
        String rest = order.substring(1);
        switch (order.charAt(0)) {
            case 'c' -> add(Integer.parseInt(rest.split("\\*")[0]), Integer.parseInt(rest.split("\\*")[1]));
            case 'a' -> now.slopes[0] = Integer.parseInt(rest);
            case 'b' -> now.slopes[1] = Integer.parseInt(rest);
            case 'x' -> {
                needLayer(Integer.parseInt(rest));
                now.layers.remove(now.heightOf(Integer.parseInt(rest)));
            }
            default -> write();
        }
    }

    int undo() {
        if (saved.isEmpty()) {
            throw state();
        }
        now = saved.removeLast();
        return saved.size();
    }

    int keep(int slot) {
        if (!in(slot, 0, 1)) {
            throw argument();
        }
        slots[slot] = now.copy();
        return now.layers.size();
    }

    int goBack(int slot) {
        if (!in(slot, 0, 1)) {
            throw argument();
        }
        if (slots[slot] == null) {
            throw state();
        }
        save();
        now = slots[slot].copy();
        return now.layers.size();
    }

    private static int place(State s, int light, int height) {
        return (light == 0 ? 0 : s.settings[0]) + s.slopes[light] * height / 10;
    }

    /** The spots of a light on all layers; none of a light that is off. */
    private static List<Spot> spots(State s, int light) {
        List<Spot> spots = new ArrayList<>();
        if (!s.on[light]) {
            return spots;
        }
        long strength = 1000;
        long from = 0;
        for (Map.Entry<Integer, Integer> layer : s.layers.entrySet()) {
            long loss = strength * s.settings[1] * (layer.getKey() - from) / 10000000L;
            strength -= Math.min(loss, strength);
            long brightness = strength * layer.getValue() / 100;
            spots.add(new Spot(place(s, light, layer.getKey()), (int) brightness, brightness >= s.settings[2],
                (int) strength, (int) (strength - brightness)));
            strength -= brightness;
            from = layer.getKey();
        }
        return spots;
    }

    private static int seen(State s) {
        List<Spot> both = new ArrayList<>(spots(s, 0));
        both.addAll(spots(s, 1));
        return (int) both.stream().filter(Spot::seen).count();
    }

    /** Of each layer the distance of its pair, or null. */
    private static List<Integer> distances(State s) {
        List<Spot> of0 = spots(s, 0);
        List<Spot> of1 = spots(s, 1);
        List<Integer> distances = new ArrayList<>();
        for (int i = 0; i < s.layers.size(); i++) {
            boolean pair = i < of0.size() && i < of1.size() && of0.get(i).seen() && of1.get(i).seen();
            distances.add(pair ? of1.get(i).place() - of0.get(i).place() : null);
        }
        return distances;
    }

    private static boolean close(State s, Integer distance) {
        return distance != null && Math.abs(distance) <= s.settings[3];
    }

    private static int meeting(State s) {
        return s.slopes[0] > s.slopes[1] ? 10 * s.settings[0] / (s.slopes[0] - s.slopes[1]) : NONE;
    }

    /** The reading, its layer, its error, and 1 if it is false; null without a reading. */
    private static int[] readingOf(State s) {
        int reading = meeting(s);
        List<Integer> distances = distances(s);
        int best = -1;
        for (int i = distances.size() - 1; i >= 0; i--) {
            if (close(s, distances.get(i))
                && (best < 0 || Math.abs(distances.get(i)) <= Math.abs(distances.get(best)))) {
                best = i;
            }
        }
        if (reading == NONE || best < 0) {
            return null;
        }
        int error = reading - s.heightOf(best);
        boolean isFalse = s.layers.keySet().stream().anyMatch(h -> Math.abs(h - reading) < Math.abs(error));
        return new int[] {reading, best, error, isFalse ? 1 : 0};
    }

    int layerOf(int layer, int what) {
        needLayer(layer);
        if (!in(what, 0, 3)) {
            throw argument();
        }
        Integer distance = distances(now).get(layer);
        int height = now.heightOf(layer);
        return new int[] {height, now.layers.get(height), distance == null ? NONE : distance,
            close(now, distance) ? 1 : 0}[what];
    }

    int spot(int light, int layer, int what) {
        needLight(light);
        needLayer(layer);
        if (!in(what, 0, 4)) {
            throw argument();
        }
        if (!now.on[light]) {
            return NONE;
        }
        Spot spot = spots(now, light).get(layer);
        return new int[] {spot.place(), spot.brightness(), spot.seen() ? 1 : 0, spot.comes(), spot.goesOn()}[what];
    }

    int reading(int what) {
        if (!in(what, 0, 3)) {
            throw argument();
        }
        int[] reading = readingOf(now);
        return reading == null ? NONE : reading[what];
    }

    private List<int[]> nights() {
        int all = now.allNights.size();
        return now.allNights.subList(Math.max(0, all - 8), all);
    }

    int night(int ago, int what) {
        if (ago < 0 || !in(what, 0, 3)) {
            throw argument();
        }
        List<int[]> nights = nights();
        return ago >= nights.size() ? NONE : nights.get(nights.size() - 1 - ago)[what];
    }

    int count(int what) {
        if (!in(what, 0, 16)) {
            throw argument();
        }
        if (what >= 13) {
            return now.settings[what - 13];
        }
        return switch (what) {
            case 0 -> now.layers.size();
            case 1 -> now.slopes[0];
            case 2 -> now.slopes[1];
            case 3 -> (now.on[0] ? 1 : 0) + (now.on[1] ? 2 : 0);
            case 4 -> meeting(now);
            case 5 -> seen(now);
            case 6 -> (int) distances(now).stream().filter(d -> d != null).count();
            case 7 -> (int) distances(now).stream().filter(d -> close(now, d)).count();
            case 8 -> nights().size();
            case 9 -> now.allNights.size();
            case 10 -> (int) now.allNights.stream().filter(n -> n[3] == 1).count();
            case 11 -> saved.size();
            default -> buffer.length();
        };
    }

    private int bestSlope(int light, int layer) {
        int height = now.heightOf(layer);
        int goal = place(now, 1 - light, height);
        int best = 0;
        int size = Integer.MAX_VALUE;
        for (int slope = 30; slope >= -30; slope--) {
            State s = now.copy();
            s.slopes[light] = slope;
            int here = Math.abs(place(s, light, height) - goal);
            if (here <= size) {
                best = slope;
                size = here;
            }
        }
        return best;
    }

    int nearest(int light, int layer, int way) {
        needLight(light);
        needLayer(layer);
        if (!in(way, 0, 1)) {
            throw argument();
        }
        return bestSlope(light, layer) + 100;
    }

    int ifScanned(int light, int what) {
        needLight(light);
        if (!in(what, 0, 3)) {
            throw argument();
        }
        List<Integer> slopes = new ArrayList<>();
        int falseOnes = 0;
        for (int slope = -30; slope <= 30; slope++) {
            State s = now.copy();
            s.slopes[light] = slope;
            int[] reading = readingOf(s);
            if (reading != null) {
                slopes.add(slope);
                falseOnes += reading[3];
            }
        }
        int first = slopes.isEmpty() ? NONE : slopes.get(0) + 100;
        int last = slopes.isEmpty() ? NONE : slopes.get(slopes.size() - 1) + 100;
        return new int[] {slopes.size(), falseOnes, first, last}[what];
    }

    int clearEnough() {
        State s = now.copy();
        s.settings[1] = 0;
        int without = seen(s);
        int best = 0;
        for (int haze = 0; haze <= 1000; haze++) {
            s.settings[1] = haze;
            if (seen(s) == without) {
                best = haze;
            }
        }
        return best;
    }

    float meanError() {
        int sum = 0;
        int number = 0;
        for (int[] night : nights()) {
            if (night[0] != NONE) {
                sum += Math.abs(night[2]);
                number++;
            }
        }
        return number == 0 ? 0.0f : (float) sum / (float) number;
    }
}
