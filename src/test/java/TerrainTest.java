/** Promises 1 to 5: a new object and its terrain. */
public final class TerrainTest {
    public static void main(String[] args) {
        newObject();
        resize();
        resizeKeepsTheAircraft();
        resizeFlattensAndRemovesStrips();
        resizeWrong();
        setHeight();
        setHeightWrong();
        raiseHill();
        raiseHillRoundsDown();
        raiseHillAtTheTopHeight();
        raiseHillWrong();
        height();
        Due.end();
    }

    private static void newObject() {
        AerialSurvey x = new AerialSurvey();
        for (int row = 0; row < 6; row++) {
            for (int column = 0; column < 10; column++) {
                Due.due("height of a new terrain", x.height(row, column), 0);
            }
        }
        Due.due("height(6, 0)", x.height(6, 0), -1);
        Due.due("height(0, 10)", x.height(0, 10), -1);
        Due.due("stripCount()", x.stripCount(), 0);
        Due.due("gapCount(1)", x.gapCount(1), 60);
        Due.due("setAltitude(1000)", x.setAltitude(1000), 1000);
        Due.due("setFields(3, 2)", x.setFields(3, 2), 0);
        Due.due("setCrab(0)", x.setCrab(0), 0);
        Due.due("setSpeed(100, 0, 60)", x.setSpeed(100, 0, 60), 0);
    }

    private static void resize() {
        AerialSurvey x = new AerialSurvey();
        Due.due("resize(3, 4)", x.resize(3, 4), 12);
        Due.due("height(2, 3)", x.height(2, 3), 0);
        Due.due("height(3, 3)", x.height(3, 3), -1);
        Due.due("height(2, 4)", x.height(2, 4), -1);
        Due.due("resize(10, 16)", x.resize(10, 16), 160);
        Due.due("height(9, 15)", x.height(9, 15), 0);
        Due.due("height(10, 15)", x.height(10, 15), -1);
        Due.due("height(9, 16)", x.height(9, 16), -1);
        Due.due("resize(4, 7)", x.resize(4, 7), 28);
    }

    private static void resizeKeepsTheAircraft() {
        AerialSurvey x = new AerialSurvey();
        x.setAltitude(777);
        x.setFields(9, 8);
        x.setCrab(-7);
        x.setSpeed(60, 5, 4);
        Due.due("resize(5, 5)", x.resize(5, 5), 25);
        Due.due("setAltitude after resize", x.setAltitude(777), 777);
        Due.due("setFields after resize", x.setFields(9, 8), 0);
        Due.due("setCrab after resize", x.setCrab(-7), 0);
        Due.due("setSpeed after resize", x.setSpeed(60, 5, 4), 0);
    }

    private static void resizeFlattensAndRemovesStrips() {
        AerialSurvey x = new AerialSurvey();
        x.resize(10, 16);
        for (int row = 0; row < 10; row++) {
            for (int column = 0; column < 16; column++) {
                x.setHeight(row, column, 500);
            }
        }
        x.addStrip(0, 0, 1, 1);
        Due.due("resize(3, 4)", x.resize(3, 4), 12);
        Due.due("stripCount() after resize", x.stripCount(), 0);
        Due.due("photoCount(0) after resize", x.photoCount(0), -2);
        x.resize(10, 16);
        for (int row = 0; row < 10; row++) {
            for (int column = 0; column < 16; column++) {
                Due.due("height after resize", x.height(row, column), 0);
            }
        }
        x.setHeight(1, 1, 3);
        x.addStrip(1, 1, 1, 1);
        Due.due("resize to the same size", x.resize(10, 16), 160);
        Due.due("height(1, 1)", x.height(1, 1), 0);
        Due.due("stripCount()", x.stripCount(), 0);
    }

    private static void resizeWrong() {
        AerialSurvey x = new AerialSurvey();
        x.setHeight(2, 2, 22);
        x.addStrip(1, 2, 8, 2);
        int[] before = State.of(x);
        int[][] wrong = {
            {2, 4}, {11, 4}, {3, 3}, {3, 17}, {0, 0}, {-3, -4},
            {Integer.MAX_VALUE, 10}, {6, Integer.MAX_VALUE}, {Integer.MIN_VALUE, 10},
        };
        for (int[] w : wrong) {
            Due.due("resize(" + w[0] + ", " + w[1] + ")", x.resize(w[0], w[1]), -4);
            Due.due("the state after it", State.of(x), before);
        }
    }

    private static void setHeight() {
        AerialSurvey x = new AerialSurvey();
        Due.due("setHeight(0, 0, 999)", x.setHeight(0, 0, 999), 0);
        Due.due("setHeight(0, 0, 5)", x.setHeight(0, 0, 5), 999);
        Due.due("setHeight(5, 9, 7)", x.setHeight(5, 9, 7), 0);
        Due.due("height(0, 0)", x.height(0, 0), 5);
        Due.due("height(5, 9)", x.height(5, 9), 7);
        Due.due("height(0, 1)", x.height(0, 1), 0);
        Due.due("setHeight(0, 0, 0)", x.setHeight(0, 0, 0), 5);
        Due.due("height(0, 0)", x.height(0, 0), 0);
    }

    private static void setHeightWrong() {
        AerialSurvey x = new AerialSurvey();
        x.setHeight(3, 3, 33);
        int[] before = State.of(x);
        Due.due("setHeight(-1, 0, 1)", x.setHeight(-1, 0, 1), -1);
        Due.due("setHeight(6, 0, 1)", x.setHeight(6, 0, 1), -1);
        Due.due("setHeight(0, -1, 1)", x.setHeight(0, -1, 1), -1);
        Due.due("setHeight(0, 10, 1)", x.setHeight(0, 10, 1), -1);
        Due.due("setHeight(6, 10, 1000)", x.setHeight(6, 10, 1000), -1);
        Due.due("setHeight(3, 3, -1)", x.setHeight(3, 3, -1), -4);
        Due.due("setHeight(3, 3, 1000)", x.setHeight(3, 3, 1000), -4);
        Due.due("the state after it", State.of(x), before);
    }

    private static void raiseHill() {
        AerialSurvey x = new AerialSurvey();
        Due.due("raiseHill(2, 5, 2, 300)", x.raiseHill(2, 5, 2, 300), 25);
        Due.due("top", x.height(2, 5), 300);
        Due.due("distance 1", x.height(1, 4), 200);
        Due.due("distance 1", x.height(3, 5), 200);
        Due.due("distance 2", x.height(4, 7), 100);
        Due.due("distance 2", x.height(0, 5), 100);
        Due.due("distance 3", x.height(5, 5), 0);
        Due.due("distance 3", x.height(2, 8), 0);
        Due.due("raiseHill(0, 0, 1, 10)", x.raiseHill(0, 0, 1, 10), 4);
        Due.due("raiseHill(0, 9, 1, 10)", x.raiseHill(0, 9, 1, 10), 4);
        Due.due("raiseHill(5, 0, 1, 10)", x.raiseHill(5, 0, 1, 10), 4);
        Due.due("raiseHill(5, 9, 0, 1)", x.raiseHill(5, 9, 0, 1), 1);
        Due.due("raiseHill(2, 5, 0, 100)", x.raiseHill(2, 5, 0, 100), 1);
        Due.due("a second rise", x.height(2, 5), 400);
        Due.due("raiseHill(3, 3, 5, 999)", x.raiseHill(3, 3, 5, 999), 54);
    }

    private static void raiseHillRoundsDown() {
        AerialSurvey x = new AerialSurvey();
        Due.due("raiseHill(3, 3, 2, 100)", x.raiseHill(3, 3, 2, 100), 25);
        Due.due("two thirds of 100", x.height(3, 4), 66);
        Due.due("a third of 100", x.height(3, 5), 33);
        Due.due("a rise below 1", x.raiseHill(3, 3, 5, 1), 1);
        Due.due("the top", x.height(3, 3), 101);
        Due.due("beside it", x.height(3, 4), 66);
    }

    private static void raiseHillAtTheTopHeight() {
        AerialSurvey x = new AerialSurvey();
        x.setHeight(1, 1, 990);
        Due.due("raiseHill(1, 1, 0, 20)", x.raiseHill(1, 1, 0, 20), 1);
        Due.due("height(1, 1)", x.height(1, 1), 999);
        Due.due("raiseHill of a cell at 999", x.raiseHill(1, 1, 0, 999), 0);
        Due.due("raiseHill around it", x.raiseHill(1, 1, 1, 2), 8);
        x.setHeight(4, 4, 998);
        Due.due("raiseHill to just 999", x.raiseHill(4, 4, 0, 1), 1);
        Due.due("height(4, 4)", x.height(4, 4), 999);
    }

    private static void raiseHillWrong() {
        AerialSurvey x = new AerialSurvey();
        x.raiseHill(3, 3, 3, 50);
        int[] before = State.of(x);
        Due.due("raiseHill(-1, 0, 9, 0)", x.raiseHill(-1, 0, 9, 0), -1);
        Due.due("raiseHill(6, 0, 1, 1)", x.raiseHill(6, 0, 1, 1), -1);
        Due.due("raiseHill(0, -1, 1, 1)", x.raiseHill(0, -1, 1, 1), -1);
        Due.due("raiseHill(0, 10, 1, 1)", x.raiseHill(0, 10, 1, 1), -1);
        Due.due("raiseHill(0, 0, -1, 1)", x.raiseHill(0, 0, -1, 1), -4);
        Due.due("raiseHill(0, 0, 6, 1)", x.raiseHill(0, 0, 6, 1), -4);
        Due.due("raiseHill(0, 0, 1, 0)", x.raiseHill(0, 0, 1, 0), -4);
        Due.due("raiseHill(0, 0, 1, 1000)", x.raiseHill(0, 0, 1, 1000), -4);
        Due.due("raiseHill of the greatest radius",
                x.raiseHill(0, 0, Integer.MAX_VALUE, 1), -4);
        Due.due("the state after it", State.of(x), before);
    }

    private static void height() {
        AerialSurvey x = new AerialSurvey();
        x.setHeight(2, 7, 123);
        Due.due("height(2, 7)", x.height(2, 7), 123);
        Due.due("height(-1, 0)", x.height(-1, 0), -1);
        Due.due("height(0, -1)", x.height(0, -1), -1);
        Due.due("height(6, 0)", x.height(6, 0), -1);
        Due.due("height(0, 10)", x.height(0, 10), -1);
        Due.due("height(greatest, greatest)",
                x.height(Integer.MAX_VALUE, Integer.MAX_VALUE), -1);
        Due.due("height(least, least)", x.height(Integer.MIN_VALUE, Integer.MIN_VALUE), -1);
        // 16 * 2^28 wraps around to 0, the cell (0, 0) of an unguarded index.
        Due.due("height(2^28, 0)", x.height(1 << 28, 0), -1);
    }
}
