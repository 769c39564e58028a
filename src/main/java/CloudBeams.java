/** Two searchlights whose beams meet under layers of clouds; the document says what each call promises. */
public final class CloudBeams {
    public static final int NONE = -99999;

    private static final int LIGHTS = 2;
    private static final int BOTH_LIT = 3;
    private static final int MOST_LAYERS = 6;
    private static final int LEAST_HEIGHT = 50;
    private static final int MOST_HEIGHT = 3000;
    private static final int MOST_THICKNESS = 100;
    private static final int MOST_SLOPE = 30;
    private static final int TOLD_SLOPE_SHIFT = 100;
    private static final int FULL_STRENGTH = 1000;
    private static final long HAZE_DIVISOR = 10000000L;
    private static final int NO_LAYER = -1;

    private static final int SETTINGS = 4;
    private static final int BASE = 0;
    private static final int HAZE = 1;
    private static final int LEAST_BRIGHTNESS = 2;
    private static final int CLOSENESS = 3;
    private static final int MOST_HAZE = 1000;
    private static final int[] LEAST_VALUES = {50, 0, 1, 0};
    private static final int[] MOST_VALUES = {1000, MOST_HAZE, 500, 100};

    private static final int MOST_NIGHTS = 8;
    private static final int NIGHT_NUMBERS = 4;
    private static final int MOST_SAVED = 6;
    private static final int SLOTS = 2;
    private static final int MOST_SIGNS = 60;
    private static final int FIRST_CODE = 33;
    private static final int LAST_CODE = 126;

    private final Sky sky;
    private final Sky[] saved;
    private int nextSaved;
    private int savedStates;
    private final Sky[] kept;
    private final boolean[] isKept;
    private final char[] buffer;
    private int length;
    private final OrderReader reader;

    public CloudBeams() {
        sky = new Sky();
        saved = new Sky[MOST_SAVED];
        for (int i = 0; i < MOST_SAVED; i++) {
            saved[i] = new Sky();
        }
        kept = new Sky[SLOTS];
        for (int i = 0; i < SLOTS; i++) {
            kept[i] = new Sky();
        }
        isKept = new boolean[SLOTS];
        buffer = new char[MOST_SIGNS];
        reader = new OrderReader();
    }

    // ---- layers and lights

    public int layer(int height, int thickness) throws IllegalArgumentException, IllegalStateException {
        if (height < LEAST_HEIGHT || height > MOST_HEIGHT || !isThickness(thickness)) {
            throw new IllegalArgumentException("height or thickness out of range");
        }
        if (!sky.takesLayer(height)) {
            throw new IllegalStateException("too many layers, or one has this height");
        }
        saveState();
        return sky.addLayer(height, thickness);
    }

    public int clear(int layer) throws IndexOutOfBoundsException {
        if (!sky.hasLayer(layer)) {
            throw new IndexOutOfBoundsException("no such layer");
        }
        saveState();
        return sky.removeLayer(layer);
    }

    public int clearThin(int thickness) throws IllegalArgumentException {
        if (!isThickness(thickness)) {
            throw new IllegalArgumentException("thickness out of range");
        }
        saveState();
        return sky.removeThinLayers(thickness);
    }

    public int aim(int light, int slope) throws IndexOutOfBoundsException, IllegalArgumentException {
        if (!isLight(light)) {
            throw new IndexOutOfBoundsException("no such light");
        }
        if (slope < -MOST_SLOPE || slope > MOST_SLOPE) {
            throw new IllegalArgumentException("slope out of range");
        }
        saveState();
        return sky.giveSlope(light, slope);
    }

    public int turn(int light) throws IndexOutOfBoundsException {
        if (!isLight(light)) {
            throw new IndexOutOfBoundsException("no such light");
        }
        saveState();
        return sky.switchLight(light);
    }

    public int set(int setting, int value) throws IndexOutOfBoundsException, IllegalArgumentException {
        if (setting < 0 || setting >= SETTINGS) {
            throw new IndexOutOfBoundsException("no such setting");
        }
        if (value < LEAST_VALUES[setting] || value > MOST_VALUES[setting]) {
            throw new IllegalArgumentException("value out of range");
        }
        saveState();
        int previous = sky.settings[setting];
        sky.settings[setting] = value;
        return previous;
    }

    public int scan(int light, int layer) throws IndexOutOfBoundsException {
        if (!isLight(light) || !sky.hasLayer(layer)) {
            throw new IndexOutOfBoundsException("no such light or layer");
        }
        saveState();
        sky.giveSlope(light, sky.slopeFoundByTrying(light, layer));
        return Math.abs(sky.distance(layer));
    }

    public int log() {
        saveState();
        return sky.logNight();
    }

    // ---- order text

    public int append(int code) throws IllegalArgumentException, IllegalStateException {
        if (code < FIRST_CODE || code > LAST_CODE) {
            throw new IllegalArgumentException("code out of range");
        }
        if (length >= MOST_SIGNS) {
            throw new IllegalStateException("the buffer is full");
        }
        buffer[length] = (char) code;
        length++;
        return length;
    }

    public int clearBuffer() {
        int previous = length;
        length = 0;
        return previous;
    }

    public int firstError() {
        return readBuffer();
    }

    public int execute() throws IllegalArgumentException {
        if (readBuffer() < length || !reader.isWholeOrder()) {
            throw new IllegalArgumentException("the buffer is not a complete order text");
        }
        saveState();
        int executed = executeOrders();
        length = 0;
        return executed;
    }

    // ---- undo and snapshots

    public int undo() throws IllegalStateException {
        if (savedStates <= 0) {
            throw new IllegalStateException("no state is saved");
        }
        nextSaved = (nextSaved + MOST_SAVED - 1) % MOST_SAVED;
        savedStates--;
        copySky(saved[nextSaved], sky);
        return savedStates;
    }

    public int keep(int slot) throws IllegalArgumentException {
        if (!isSlot(slot)) {
            throw new IllegalArgumentException("no such slot");
        }
        copySky(sky, kept[slot]);
        isKept[slot] = true;
        return sky.layers;
    }

    public int goBack(int slot) throws IllegalArgumentException, IllegalStateException {
        if (!isSlot(slot)) {
            throw new IllegalArgumentException("no such slot");
        }
        if (!isKept[slot]) {
            throw new IllegalStateException("the slot is empty");
        }
        saveState();
        copySky(kept[slot], sky);
        return sky.layers;
    }

    // ---- queries; nothing changes

    public int layerOf(int layer, int what) throws IndexOutOfBoundsException, IllegalArgumentException {
        if (!sky.hasLayer(layer)) {
            throw new IndexOutOfBoundsException("no such layer");
        }
        switch (what) {
            case 0:
                return sky.heights[layer];
            case 1:
                return sky.thicknesses[layer];
            case 2:
                return sky.hasPair(layer) ? sky.distance(layer) : NONE;
            case 3:
                return sky.hasClosePair(layer) ? 1 : 0;
            default:
                throw new IllegalArgumentException("what is not 0 to 3");
        }
    }

    public int spot(int light, int layer, int what) throws IndexOutOfBoundsException, IllegalArgumentException {
        if (!isLight(light) || !sky.hasLayer(layer)) {
            throw new IndexOutOfBoundsException("no such light or layer");
        }
        if (what < 0 || what > 4) {
            throw new IllegalArgumentException("what is not 0 to 4");
        }
        return sky.isLit(light) ? sky.spotNumber(light, layer, what) : NONE;
    }

    public int reading(int what) throws IllegalArgumentException {
        if (what < 0 || what > 3) {
            throw new IllegalArgumentException("what is not 0 to 3");
        }
        return sky.readingNumber(what);
    }

    public int night(int ago, int what) throws IllegalArgumentException {
        if (ago < 0 || what < 0 || what >= NIGHT_NUMBERS) {
            throw new IllegalArgumentException("ago is negative, or what is not 0 to 3");
        }
        return sky.nights.nightNumber(ago, what);
    }

    public int count(int what) throws IllegalArgumentException {
        switch (what) {
            case 0:
                return sky.layers;
            case 1:
                return sky.slopes[0];
            case 2:
                return sky.slopes[1];
            case 3:
                return sky.litMask;
            case 4:
                return sky.meetingHeight(sky.slopes[0], sky.slopes[1]);
            case 5:
                return sky.seenSpots(sky.settings[HAZE]);
            case 6:
                return Integer.bitCount(sky.pairLayers());
            case 7:
                return sky.closePairs();
            case 8:
                return sky.nights.known;
            case 9:
                return sky.nights.logged;
            case 10:
                return sky.nights.loggedFalse;
            case 11:
                return savedStates;
            case 12:
                return length;
            case 13:
                return sky.settings[BASE];
            case 14:
                return sky.settings[HAZE];
            case 15:
                return sky.settings[LEAST_BRIGHTNESS];
            case 16:
                return sky.settings[CLOSENESS];
            default:
                throw new IllegalArgumentException("what is not 0 to 16");
        }
    }

    // ---- what would be; nothing changes

    public int nearest(int light, int layer, int way) throws IndexOutOfBoundsException, IllegalArgumentException {
        if (!isLight(light) || !sky.hasLayer(layer)) {
            throw new IndexOutOfBoundsException("no such light or layer");
        }
        if (way != 0 && way != 1) {
            throw new IllegalArgumentException("way is neither 0 nor 1");
        }
        int slope = way == 0 ? sky.slopeFoundByTrying(light, layer) : sky.slopeFoundByComputing(light, layer);
        return slope + TOLD_SLOPE_SHIFT;
    }

    public int ifScanned(int light, int what) throws IndexOutOfBoundsException, IllegalArgumentException {
        if (!isLight(light)) {
            throw new IndexOutOfBoundsException("no such light");
        }
        if (what < 0 || what > 3) {
            throw new IllegalArgumentException("what is not 0 to 3");
        }
        return what < 2 ? sky.slopesWithReading(light, what == 1) : sky.outermostSlopeWithReading(light, what == 3);
    }

    public int clearEnough() {
        int seenWithoutHaze = sky.seenSpots(0);
        for (int haze = MOST_HAZE; haze > 0; haze--) {
            if (sky.seenSpots(haze) == seenWithoutHaze) {
                return haze;
            }
        }
        return 0;
    }

    public float meanError() {
        return sky.nights.meanSizeOfErrors();
    }

    // ---- what the calls share

    private static boolean isLight(int light) {
        return light >= 0 && light < LIGHTS;
    }

    private static boolean isSlot(int slot) {
        return slot >= 0 && slot < SLOTS;
    }

    private static boolean isThickness(int thickness) {
        return thickness >= 1 && thickness <= MOST_THICKNESS;
    }

    private static void copySky(Sky from, Sky to) {
        if (from != null && to != null) {
            to.becomeLike(from);
        }
    }

    /** The saved states go round in their row, so the seventh takes the place of the oldest. */
    private void saveState() {
        copySky(sky, saved[nextSaved]);
        nextSaved = (nextSaved + 1) % MOST_SAVED;
        savedStates = Math.min(savedStates + 1, MOST_SAVED);
    }

    /** Returns the index of the first error; without one, the reader then stands in the last order. */
    private int readBuffer() {
        reader.startOrder();
        for (int i = 0; i < length; i++) {
            if (!reader.takes(buffer[i])) {
                return i;
            }
        }
        return length;
    }

    private int executeOrders() {
        int executed = 0;
        reader.startOrder();
        for (int i = 0; i < length; i++) {
            if (buffer[i] == ';') {
                if (!executeOrder()) {
                    return executed;
                }
                executed++;
            }
            reader.takes(buffer[i]);
        }
        return executeOrder() ? executed + 1 : executed;
    }

    /** Returns false, with nothing changed, if the order's method would throw an exception. */
    private boolean executeOrder() {
        switch (reader.kind) {
            case 'c':
                if (!sky.takesLayer(reader.height)) {
                    return false;
                }
                sky.addLayer(reader.height, reader.number);
                return true;
            case 'x':
                if (!sky.hasLayer(reader.number)) {
                    return false;
                }
                sky.removeLayer(reader.number);
                return true;
            case 'n':
                sky.logNight();
                return true;
            default:
                sky.giveSlope(reader.kind == 'a' ? 0 : 1, reader.isNegative ? -reader.number : reader.number);
                return true;
        }
    }

    /** The state: all that undo and snapshots bring back. */
    private static final class Sky {
        int layers;
        final int[] heights;
        final int[] thicknesses;
        final int[] slopes;
        final int[] settings;
        int litMask;
        final NightLog nights;

        Sky() {
            heights = new int[MOST_LAYERS];
            thicknesses = new int[MOST_LAYERS];
            slopes = new int[LIGHTS];
            slopes[0] = 5;
            slopes[1] = -5;
            settings = new int[SETTINGS];
            settings[BASE] = 300;
            settings[HAZE] = 100;
            settings[LEAST_BRIGHTNESS] = 20;
            settings[CLOSENESS] = 10;
            litMask = BOTH_LIT;
            nights = new NightLog();
        }

        void becomeLike(Sky other) {
            layers = other.layers;
            System.arraycopy(other.heights, 0, heights, 0, MOST_LAYERS);
            System.arraycopy(other.thicknesses, 0, thicknesses, 0, MOST_LAYERS);
            System.arraycopy(other.slopes, 0, slopes, 0, LIGHTS);
            System.arraycopy(other.settings, 0, settings, 0, SETTINGS);
            litMask = other.litMask;
            nights.becomeLike(other.nights);
        }

        boolean hasLayer(int layer) {
            return layer >= 0 && layer < layers;
        }

        boolean takesLayer(int height) {
            for (int i = 0; i < layers; i++) {
                if (heights[i] == height) {
                    return false;
                }
            }
            return layers < MOST_LAYERS;
        }

        /** Only after takesLayer(height). */
        int addLayer(int height, int thickness) {
            int layer = layers;
            while (layer > 0 && heights[layer - 1] > height) {
                heights[layer] = heights[layer - 1];
                thicknesses[layer] = thicknesses[layer - 1];
                layer--;
            }
            heights[layer] = height;
            thicknesses[layer] = thickness;
            layers++;
            return layer;
        }

        /** Only after hasLayer(layer). */
        int removeLayer(int layer) {
            int height = heights[layer];
            for (int i = layer + 1; i < layers; i++) {
                heights[i - 1] = heights[i];
                thicknesses[i - 1] = thicknesses[i];
            }
            layers--;
            return height;
        }

        int removeThinLayers(int thickness) {
            int left = 0;
            for (int i = 0; i < layers; i++) {
                if (thicknesses[i] > thickness) {
                    heights[left] = heights[i];
                    thicknesses[left] = thicknesses[i];
                    left++;
                }
            }
            int removed = layers - left;
            layers = left;
            return removed;
        }

        int giveSlope(int light, int slope) {
            int previous = slopes[light];
            slopes[light] = slope;
            return previous;
        }

        boolean isLit(int light) {
            return (litMask >> light & 1) == 1;
        }

        int switchLight(int light) {
            litMask ^= 1 << light;
            return isLit(light) ? 1 : 0;
        }

        int place(int light, int slope, int height) {
            int ofLight = light == 0 ? 0 : settings[BASE];
            return ofLight + slope * height / 10;
        }

        int distance(int layer) {
            return distanceWith(layer, slopes[0], slopes[1]);
        }

        int distanceWith(int layer, int slope0, int slope1) {
            return place(1, slope1, heights[layer]) - place(0, slope0, heights[layer]);
        }

        int meetingHeight(int slope0, int slope1) {
            return slope0 > slope1 ? 10 * settings[BASE] / (slope0 - slope1) : NONE;
        }

        static int throughHaze(int strength, int haze, int way) {
            long loss = (long) strength * haze * way / HAZE_DIVISOR;
            return loss < strength ? strength - (int) loss : 0;
        }

        static int brightness(int strength, int thickness) {
            return strength * thickness / 100;
        }

        /** No light is asked for, as both beams begin alike and lose alike. */
        int strengthAt(int layer) {
            int strength = FULL_STRENGTH;
            int height = 0;
            for (int i = 0; i < layer; i++) {
                strength = throughHaze(strength, settings[HAZE], heights[i] - height);
                strength -= brightness(strength, thicknesses[i]);
                height = heights[i];
            }
            return throughHaze(strength, settings[HAZE], heights[layer] - height);
        }

        /** A bit for each layer on which a beam's spot is seen, whichever the light. */
        int seenLayers(int haze) {
            int strength = FULL_STRENGTH;
            int height = 0;
            int seen = 0;
            for (int i = 0; i < layers; i++) {
                strength = throughHaze(strength, haze, heights[i] - height);
                int brightness = brightness(strength, thicknesses[i]);
                if (brightness >= settings[LEAST_BRIGHTNESS]) {
                    seen |= 1 << i;
                }
                strength -= brightness;
                height = heights[i];
            }
            return seen;
        }

        int seenSpots(int haze) {
            return Integer.bitCount(seenLayers(haze)) * Integer.bitCount(litMask);
        }

        int spotNumber(int light, int layer, int what) {
            int strength = strengthAt(layer);
            int brightness = brightness(strength, thicknesses[layer]);
            switch (what) {
                case 0:
                    return place(light, slopes[light], heights[layer]);
                case 1:
                    return brightness;
                case 2:
                    return brightness >= settings[LEAST_BRIGHTNESS] ? 1 : 0;
                case 3:
                    return strength;
                default:
                    return strength - brightness;
            }
        }

        /** A bit for each layer with a pair. */
        int pairLayers() {
            return litMask == BOTH_LIT ? seenLayers(settings[HAZE]) : 0;
        }

        boolean hasPair(int layer) {
            return (pairLayers() >> layer & 1) == 1;
        }

        boolean hasClosePair(int layer) {
            return hasPair(layer) && Math.abs(distance(layer)) <= settings[CLOSENESS];
        }

        int closePairs() {
            int found = 0;
            for (int i = 0; i < layers; i++) {
                if (hasClosePair(i)) {
                    found++;
                }
            }
            return found;
        }

        int layerOfReading(int slope0, int slope1) {
            if (slope0 <= slope1 || litMask != BOTH_LIT) {
                return NO_LAYER;
            }
            int seen = seenLayers(settings[HAZE]);
            int found = NO_LAYER;
            int sizeBelow = settings[CLOSENESS] + 1;
            for (int i = 0; i < layers; i++) {
                int size = Math.abs(distanceWith(i, slope0, slope1));
                if (size < sizeBelow && (seen >> i & 1) == 1) {
                    found = i;
                    sizeBelow = size;
                }
            }
            return found;
        }

        boolean isFalse(int reading, int layer) {
            int error = Math.abs(reading - heights[layer]);
            for (int i = 0; i < layers; i++) {
                if (Math.abs(reading - heights[i]) < error) {
                    return true;
                }
            }
            return false;
        }

        int readingNumber(int what) {
            int layer = layerOfReading(slopes[0], slopes[1]);
            if (layer == NO_LAYER) {
                return NONE;
            }
            int reading = meetingHeight(slopes[0], slopes[1]);
            switch (what) {
                case 0:
                    return reading;
                case 1:
                    return layer;
                case 2:
                    return reading - heights[layer];
                default:
                    return isFalse(reading, layer) ? 1 : 0;
            }
        }

        int logNight() {
            int layer = layerOfReading(slopes[0], slopes[1]);
            if (layer == NO_LAYER) {
                return nights.write(NONE, NONE, NONE, false);
            }
            int reading = meetingHeight(slopes[0], slopes[1]);
            return nights.write(reading, heights[layer], reading - heights[layer], isFalse(reading, layer));
        }

        int slopeFoundByTrying(int light, int layer) {
            return bestSlope(light, layer, -MOST_SLOPE, MOST_SLOPE);
        }

        /**
         * A layer is so high that a step of the slope moves the place by 5 or more:
         * rounding then shifts the best slope by 1 at most.
         */
        int slopeFoundByComputing(int light, int layer) {
            int height = heights[layer];
            if (height <= 0) {
                return -MOST_SLOPE;
            }
            int way = place(1 - light, slopes[1 - light], height) - place(light, 0, height);
            int right = Math.max(-MOST_SLOPE, Math.min(MOST_SLOPE, 10 * way / height));
            return bestSlope(light, layer, Math.max(-MOST_SLOPE, right - 1), Math.min(MOST_SLOPE, right + 1));
        }

        int bestSlope(int light, int layer, int first, int last) {
            int height = heights[layer];
            int goal = place(1 - light, slopes[1 - light], height);
            int best = first;
            int leastSize = Math.abs(place(light, first, height) - goal);
            for (int slope = first + 1; slope <= last; slope++) {
                int size = Math.abs(place(light, slope, height) - goal);
                if (size < leastSize) {
                    best = slope;
                    leastSize = size;
                }
            }
            return best;
        }

        int layerOfReadingWith(int light, int slope) {
            return light == 0 ? layerOfReading(slope, slopes[1]) : layerOfReading(slopes[0], slope);
        }

        boolean isFalseWith(int light, int slope, int layer) {
            int reading = light == 0 ? meetingHeight(slope, slopes[1]) : meetingHeight(slopes[0], slope);
            return isFalse(reading, layer);
        }

        int slopesWithReading(int light, boolean onlyFalse) {
            int found = 0;
            for (int slope = -MOST_SLOPE; slope <= MOST_SLOPE; slope++) {
                int layer = layerOfReadingWith(light, slope);
                if (layer != NO_LAYER && (!onlyFalse || isFalseWith(light, slope, layer))) {
                    found++;
                }
            }
            return found;
        }

        int outermostSlopeWithReading(int light, boolean highest) {
            for (int i = -MOST_SLOPE; i <= MOST_SLOPE; i++) {
                int slope = highest ? -i : i;
                if (layerOfReadingWith(light, slope) != NO_LAYER) {
                    return slope + TOLD_SLOPE_SHIFT;
                }
            }
            return NONE;
        }
    }

    /** The latest nights, the newest first, four numbers each. */
    private static final class NightLog {
        final int[] numbers;
        int known;
        int logged;
        int loggedFalse;

        NightLog() {
            numbers = new int[MOST_NIGHTS * NIGHT_NUMBERS];
        }

        void becomeLike(NightLog other) {
            System.arraycopy(other.numbers, 0, numbers, 0, MOST_NIGHTS * NIGHT_NUMBERS);
            known = other.known;
            logged = other.logged;
            loggedFalse = other.loggedFalse;
        }

        int write(int reading, int height, int error, boolean isFalse) {
            System.arraycopy(numbers, 0, numbers, NIGHT_NUMBERS, (MOST_NIGHTS - 1) * NIGHT_NUMBERS);
            numbers[0] = reading;
            numbers[1] = height;
            numbers[2] = error;
            numbers[3] = isFalse ? 1 : 0;
            known = Math.min(known + 1, MOST_NIGHTS);
            logged++;
            if (isFalse) {
                loggedFalse++;
            }
            return known;
        }

        int nightNumber(int ago, int what) {
            return ago < known ? numbers[ago * NIGHT_NUMBERS + what] : NONE;
        }

        float meanSizeOfErrors() {
            int sum = 0;
            int readings = 0;
            for (int i = 0; i < known; i++) {
                int error = nightNumber(i, 2);
                if (error != NONE) {
                    sum += Math.abs(error);
                    readings++;
                }
            }
            return readings > 0 ? (float) sum / (float) readings : 0.0f;
        }
    }

    /** Reads an order text sign by sign, and knows the order that it stands in. */
    private static final class OrderReader {
        char kind;
        int height;
        int number;
        int digits;
        boolean isNegative;
        boolean isAtThickness;

        OrderReader() {
            kind = 0;
        }

        void startOrder() {
            kind = 0;
            height = 0;
            isNegative = false;
            isAtThickness = false;
            startNumber();
        }

        private void startNumber() {
            number = 0;
            digits = 0;
        }

        /** Returns false, with nothing read, if no order text can have this sign here. */
        boolean takes(char sign) {
            if (kind == 0) {
                return takesKind(sign);
            }
            switch (sign) {
                case ';':
                    return takesSemicolon();
                case '*':
                    return takesStar();
                case '-':
                    return takesMinus();
                default:
                    return sign >= '0' && sign <= '9' && takesDigit(sign - '0');
            }
        }

        boolean isWholeOrder() {
            switch (kind) {
                case 'n':
                    return true;
                case 'c':
                    return isAtThickness && digits > 0;
                default:
                    return digits > 0;
            }
        }

        private boolean takesKind(char sign) {
            if (sign != 'c' && sign != 'a' && sign != 'b' && sign != 'x' && sign != 'n') {
                return false;
            }
            kind = sign;
            return true;
        }

        private boolean takesSemicolon() {
            if (!isWholeOrder()) {
                return false;
            }
            startOrder();
            return true;
        }

        private boolean takesStar() {
            if (kind != 'c' || isAtThickness || number < LEAST_HEIGHT) {
                return false;
            }
            height = number;
            isAtThickness = true;
            startNumber();
            return true;
        }

        private boolean takesMinus() {
            if (kind != 'a' && kind != 'b' || isNegative || digits > 0) {
                return false;
            }
            isNegative = true;
            return true;
        }

        private boolean takesDigit(int digit) {
            boolean hasLeadingZero = digits > 0 && number == 0;
            boolean isForbiddenZero = kind == 'c' && digits == 0 && digit == 0;
            int longer = number * 10 + digit;
            if (kind == 'n' || hasLeadingZero || isForbiddenZero || longer > mostOfNumber()) {
                return false;
            }
            number = longer;
            digits++;
            return true;
        }

        private int mostOfNumber() {
            switch (kind) {
                case 'c':
                    return isAtThickness ? MOST_THICKNESS : MOST_HEIGHT;
                case 'x':
                    return MOST_LAYERS - 1;
                default:
                    return MOST_SLOPE;
            }
        }
    }
}
