/** Promises 26 to 28: strip times and the fastest route. */
public final class RouteTest {
    public static void main(String[] args) {
        stripTime();
        noStrips();
        oneStrip();
        tiesGoToLowerStripsAndEast();
        windTurnsTheRoute();
        transferRoundsDown();
        eightStrips();
        wrong();
        Due.end();
    }

    private static void dueRoute(AerialSurvey x, int row, int column, int time, int... steps) {
        String base = "(" + row + ", " + column + ")";
        Due.due("routeTime" + base, x.routeTime(row, column), time);
        for (int k = 0; k < steps.length; k++) {
            Due.due("step " + k + " from " + base, x.routeStep(row, column, k), steps[k]);
        }
        Due.due("the step behind the last", x.routeStep(row, column, steps.length), -6);
    }

    private static void stripTime() {
        AerialSurvey x = new AerialSurvey();
        x.addStrip(0, 2, 9, 16);
        x.addStrip(1, 4, 4, 1);
        Due.due("to the last column without a photo", x.stripTime(0, true), 70);
        Due.due("a strip of one column", x.stripTime(1, true), 0);
        x.setSpeed(60, 40, 0);
        Due.due("eastbound", x.stripTime(0, true), 70);
        Due.due("westbound", x.stripTime(0, false), 350);
        x.setSpeed(50, -40, 0);
        Due.due("against the greatest wind", x.stripTime(0, true), 700);
        Due.due("rounded down", x.stripTime(0, false), 77);
        x.resize(3, 16);
        x.addStrip(0, 0, 15, 1);
        x.addStrip(1, 0, 15, 1);
        Due.due("the longest time", x.stripTime(0, true), 1500);
        Due.due("the longest strip with the wind", x.stripTime(0, false), 166);
        Due.due("stripTime(2, true)", x.stripTime(2, true), -2);
        Due.due("stripTime(-1, false)", x.stripTime(-1, false), -2);
    }

    private static void noStrips() {
        AerialSurvey x = new AerialSurvey();
        dueRoute(x, 0, 0, 0);
        dueRoute(x, 5, 9, 0);
        Due.due("routeTime(6, 0)", x.routeTime(6, 0), -1);
        Due.due("routeStep(0, 0, -1)", x.routeStep(0, 0, -1), -4);
    }

    private static void oneStrip() {
        AerialSurvey x = new AerialSurvey();
        x.addStrip(3, 2, 7, 1);
        // Transfers of 3 + 2 and 3 + 2 cells and a turn, then 5 columns.
        dueRoute(x, 0, 0, 160, 0);
        dueRoute(x, 0, 9, 160, 1);
        dueRoute(x, 3, 2, 110, 0);
        dueRoute(x, 3, 7, 110, 1);
        x.setSpeed(100, 0, 0);
        dueRoute(x, 3, 7, 50, 1);
        x.setSpeed(100, 0, 500);
        dueRoute(x, 3, 7, 550, 1);
    }

    private static void tiesGoToLowerStripsAndEast() {
        AerialSurvey x = new AerialSurvey();
        x.addStrip(2, 4, 4, 1);
        x.addStrip(2, 4, 4, 1);
        x.addStrip(2, 4, 4, 1);
        dueRoute(x, 2, 4, 180, 0, 2, 4);
        AerialSurvey y = new AerialSurvey();
        y.resize(5, 9);
        y.addStrip(4, 2, 6, 1);
        y.addStrip(0, 2, 6, 1);
        // All four first steps from the middle are equally fast.
        dueRoute(y, 2, 4, 280, 0, 3);
        // From the upper row strip 1 is faster, eastbound or westbound.
        dueRoute(y, 0, 4, 260, 2, 1);
    }

    private static void windTurnsTheRoute() {
        AerialSurvey x = new AerialSurvey();
        x.addStrip(1, 0, 9, 3);
        x.addStrip(4, 0, 9, 3);
        x.setSpeed(50, 40, 0);
        // Both eastbound: 20 + 100 + 240 + 100; westbound flights take 900.
        dueRoute(x, 0, 0, 460, 0, 2);
        x.setSpeed(50, -40, 0);
        dueRoute(x, 0, 0, 640, 1, 3);
    }

    private static void transferRoundsDown() {
        AerialSurvey x = new AerialSurvey();
        x.addStrip(1, 1, 1, 1);
        x.setSpeed(300, 0, 7);
        // 2 * 1000 / 300 = 6.66, not twice 3.33.
        dueRoute(x, 0, 0, 13, 0);
        dueRoute(x, 1, 0, 10, 0);
        dueRoute(x, 1, 1, 7, 0);
        dueRoute(x, 1, 2, 10, 0);
        dueRoute(x, 2, 2, 13, 0);
        x.resize(3, 16);
        x.addStrip(2, 15, 15, 1);
        x.setSpeed(52, 0, 0);
        // 17 * 1000 / 52 = 326.92
        dueRoute(x, 0, 0, 326, 0);
    }

    private static void eightStrips() {
        AerialSurvey x = new AerialSurvey();
        x.resize(8, 11);
        for (int row = 7; row >= 0; row--) {
            x.addStrip(row, 0, 10, 1);
        }
        // To and fro over the rows: 8 turns, 8 flights of 100, 7 transfers of 10.
        dueRoute(x, 0, 0, 1350, 14, 13, 10, 9, 6, 5, 2, 1);
        dueRoute(x, 7, 10, 1350, 1, 2, 5, 6, 9, 10, 13, 14);
    }

    private static void wrong() {
        AerialSurvey x = new AerialSurvey();
        x.addStrip(3, 2, 7, 1);
        int[][] outside = {
            {-1, 0}, {6, 0}, {0, -1}, {0, 10}, {Integer.MAX_VALUE, Integer.MIN_VALUE},
        };
        for (int[] o : outside) {
            String base = "(" + o[0] + ", " + o[1] + ")";
            Due.due("routeTime" + base, x.routeTime(o[0], o[1]), -1);
            Due.due("routeStep -1 of " + base, x.routeStep(o[0], o[1], -1), -1);
            Due.due("routeStep 9 of " + base, x.routeStep(o[0], o[1], 9), -1);
        }
        Due.due("routeStep(0, 0, -1)", x.routeStep(0, 0, -1), -4);
        Due.due("routeStep(0, 0, least)", x.routeStep(0, 0, Integer.MIN_VALUE), -4);
        Due.due("routeStep(0, 0, 1)", x.routeStep(0, 0, 1), -6);
        Due.due("routeStep(0, 0, greatest)", x.routeStep(0, 0, Integer.MAX_VALUE), -6);
    }
}
