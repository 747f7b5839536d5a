/** Promises 6 to 9: altitude, fields, crab and speed. */
public final class AircraftTest {
    public static void main(String[] args) {
        setAltitude();
        setFields();
        setCrab();
        setSpeed();
        Due.end();
    }

    private static void setAltitude() {
        AerialSurvey x = new AerialSurvey();
        Due.due("setAltitude(100)", x.setAltitude(100), 1000);
        Due.due("setAltitude(5000)", x.setAltitude(5000), 100);
        Due.due("setAltitude(99)", x.setAltitude(99), -4);
        Due.due("setAltitude(5001)", x.setAltitude(5001), -4);
        Due.due("setAltitude(least)", x.setAltitude(Integer.MIN_VALUE), -4);
        Due.due("setAltitude(1000)", x.setAltitude(1000), 5000);
        x.addStrip(2, 4, 4, 1);
        Due.due("at 1000", x.seesCell(0, 0, 2, 7), 1);
        x.setAltitude(999);
        Due.due("at 999", x.seesCell(0, 0, 2, 7), 0);
    }

    private static void setFields() {
        AerialSurvey x = new AerialSurvey();
        Due.due("setFields(4, 2)", x.setFields(4, 2), 1);
        Due.due("setFields(4, 3)", x.setFields(4, 3), 1);
        Due.due("setFields(4, 3) again", x.setFields(4, 3), 0);
        Due.due("setFields(1, 1)", x.setFields(1, 1), 1);
        Due.due("setFields(50, 50)", x.setFields(50, 50), 1);
        int[][] wrong = {{0, 1}, {51, 1}, {1, 0}, {1, 51}, {-1, -1}, {Integer.MAX_VALUE, 1}};
        for (int[] w : wrong) {
            Due.due("setFields(" + w[0] + ", " + w[1] + ")", x.setFields(w[0], w[1]), -4);
            Due.due("setFields(50, 50) after it", x.setFields(50, 50), 0);
        }
        x.addStrip(2, 4, 4, 1);
        x.setFields(1, 2);
        Due.due("along 1", x.seesCell(0, 0, 2, 6), 0);
        Due.due("across 2", x.seesCell(0, 0, 4, 4), 1);
        x.setFields(2, 1);
        Due.due("along 2", x.seesCell(0, 0, 2, 6), 1);
        Due.due("across 1", x.seesCell(0, 0, 4, 4), 0);
    }

    private static void setCrab() {
        AerialSurvey x = new AerialSurvey();
        Due.due("setCrab(100)", x.setCrab(100), 1);
        Due.due("setCrab(100) again", x.setCrab(100), 0);
        Due.due("setCrab(-100)", x.setCrab(-100), 1);
        int[] wrong = {101, -101, Integer.MAX_VALUE, Integer.MIN_VALUE};
        for (int w : wrong) {
            Due.due("setCrab(" + w + ")", x.setCrab(w), -4);
            Due.due("setCrab(-100) after it", x.setCrab(-100), 0);
        }
        Due.due("setCrab(0)", x.setCrab(0), 1);
    }

    private static void setSpeed() {
        AerialSurvey x = new AerialSurvey();
        Due.due("setSpeed(101, 0, 60)", x.setSpeed(101, 0, 60), 1);
        Due.due("setSpeed(101, 1, 60)", x.setSpeed(101, 1, 60), 1);
        Due.due("setSpeed(101, 1, 61)", x.setSpeed(101, 1, 61), 1);
        Due.due("setSpeed(101, 1, 61) again", x.setSpeed(101, 1, 61), 0);
        Due.due("setSpeed(50, -40, 0)", x.setSpeed(50, -40, 0), 1);
        Due.due("setSpeed(300, 40, 500)", x.setSpeed(300, 40, 500), 1);
        int[][] wrong = {
            {49, 0, 0}, {301, 0, 0}, {50, -41, 0}, {50, 41, 0}, {50, 0, -1}, {50, 0, 501},
            {0, 0, 0}, {Integer.MIN_VALUE, Integer.MIN_VALUE, Integer.MIN_VALUE},
        };
        for (int[] w : wrong) {
            Due.due("setSpeed(" + w[0] + ", " + w[1] + ", " + w[2] + ")",
                    x.setSpeed(w[0], w[1], w[2]), -4);
            Due.due("setSpeed(300, 40, 500) after it", x.setSpeed(300, 40, 500), 0);
        }
    }
}
