/** Objects that many tests begin with. */
final class Skies {
    private Skies() {
    }

    static CloudBeams with(int... heightsAndThicknesses) {
        CloudBeams x = new CloudBeams();
        for (int i = 0; i + 1 < heightsAndThicknesses.length; i += 2) {
            x.layer(heightsAndThicknesses[i], heightsAndThicknesses[i + 1]);
        }
        return x;
    }

    /** Six layers, at 100 to 600, 10 to 60 thick. */
    static CloudBeams full() {
        return with(100, 10, 200, 20, 300, 30, 400, 40, 500, 50, 600, 60);
    }

    static CloudBeams typed(String text) {
        CloudBeams x = new CloudBeams();
        Check.type(x, text);
        return x;
    }

    /** Without haze a beam comes to the lowest layer with all its strength. */
    static CloudBeams clearAir(int... heightsAndThicknesses) {
        CloudBeams x = with(heightsAndThicknesses);
        x.set(1, 0);
        return x;
    }

    static void aimBoth(CloudBeams x, int slope0, int slope1) {
        x.aim(0, slope0);
        x.aim(1, slope1);
    }
}
