/** Promises 10 to 14: adding, removing and counting strips and photos. */
public final class StripsTest {
    public static void main(String[] args) {
        addStrip();
        addStripWrong();
        addStripFull();
        removeStrip();
        photoCount();
        photoColumn();
        Due.end();
    }

    private static void addStrip() {
        AerialSurvey x = new AerialSurvey();
        Due.due("addStrip(0, 0, 9, 1)", x.addStrip(0, 0, 9, 1), 0);
        Due.due("addStrip(5, 9, 9, 16)", x.addStrip(5, 9, 9, 16), 1);
        Due.due("addStrip(0, 0, 9, 1) again", x.addStrip(0, 0, 9, 1), 2);
        Due.due("stripCount()", x.stripCount(), 3);
        x.setAltitude(100);
        Due.due("the photo of strip 1 sees its own cell", x.seesCell(1, 0, 5, 9), 1);
        Due.due("the photo of strip 1 sees no other cell", x.footprintSize(1, 0), 1);
    }

    private static void addStripWrong() {
        AerialSurvey x = new AerialSurvey();
        x.addStrip(3, 1, 7, 2);
        int[] before = State.of(x);
        Due.due("addStrip(-1, 0, 9, 1)", x.addStrip(-1, 0, 9, 1), -1);
        Due.due("addStrip(6, 0, 9, 1)", x.addStrip(6, 0, 9, 1), -1);
        Due.due("addStrip(0, -1, 9, 1)", x.addStrip(0, -1, 9, 1), -1);
        Due.due("addStrip(0, 10, 10, 1)", x.addStrip(0, 10, 10, 1), -1);
        Due.due("addStrip(0, 0, 10, 1)", x.addStrip(0, 0, 10, 1), -1);
        Due.due("addStrip(0, 10, 9, 1)", x.addStrip(0, 10, 9, 1), -1);
        Due.due("addStrip(0, 0, -1, 0)", x.addStrip(0, 0, -1, 0), -1);
        Due.due("addStrip(0, 5, 4, 1)", x.addStrip(0, 5, 4, 1), -4);
        Due.due("addStrip(0, 0, 9, 0)", x.addStrip(0, 0, 9, 0), -4);
        Due.due("addStrip(0, 0, 9, 17)", x.addStrip(0, 0, 9, 17), -4);
        Due.due("addStrip(0, 0, 9, least)", x.addStrip(0, 0, 9, Integer.MIN_VALUE), -4);
        Due.due("the state after it", State.of(x), before);
    }

    private static void addStripFull() {
        AerialSurvey x = new AerialSurvey();
        for (int strip = 0; strip < 8; strip++) {
            Due.due("addStrip", x.addStrip(strip % 6, strip, 9, 1), strip);
        }
        int[] before = State.of(x);
        Due.due("a ninth strip", x.addStrip(0, 0, 9, 1), -5);
        Due.due("a ninth strip with a wrong value", x.addStrip(0, 5, 4, 1), -4);
        Due.due("a ninth strip outside", x.addStrip(6, 0, 9, 1), -1);
        Due.due("the state after it", State.of(x), before);
        Due.due("removeStrip(7)", x.removeStrip(7), 7);
        Due.due("addStrip where there is room again", x.addStrip(0, 0, 9, 1), 7);
    }

    private static void removeStrip() {
        AerialSurvey x = new AerialSurvey();
        x.addStrip(1, 1, 9, 1);
        x.addStrip(2, 2, 8, 2);
        x.addStrip(3, 3, 7, 3);
        x.addStrip(4, 4, 6, 4);
        int[] before = State.of(x);
        Due.due("removeStrip(-1)", x.removeStrip(-1), -2);
        Due.due("removeStrip(4)", x.removeStrip(4), -2);
        Due.due("removeStrip(greatest)", x.removeStrip(Integer.MAX_VALUE), -2);
        Due.due("the state after it", State.of(x), before);
        Due.due("removeStrip(1)", x.removeStrip(1), 3);
        Due.due("stripCount()", x.stripCount(), 3);
        Due.due("first of strip 0", x.photoColumn(0, 0), 1);
        Due.due("first of strip 1", x.photoColumn(1, 0), 3);
        Due.due("spacing of strip 1", x.photoColumn(1, 1), 6);
        Due.due("last of strip 1", x.stripTime(1, true), 40);
        Due.due("first of strip 2", x.photoColumn(2, 0), 4);
        Due.due("strip 3", x.photoColumn(3, 0), -2);
        x.setAltitude(100);
        Due.due("row of strip 1", x.seesCell(1, 0, 3, 3), 1);
        Due.due("row of strip 2", x.seesCell(2, 0, 4, 4), 1);
        Due.due("removeStrip(2)", x.removeStrip(2), 2);
        Due.due("removeStrip(0)", x.removeStrip(0), 1);
        Due.due("first of strip 0", x.photoColumn(0, 0), 3);
        Due.due("removeStrip(0)", x.removeStrip(0), 0);
        Due.due("removeStrip(0) of none", x.removeStrip(0), -2);
        Due.due("stripCount()", x.stripCount(), 0);
    }

    private static void photoCount() {
        AerialSurvey x = new AerialSurvey();
        x.addStrip(0, 0, 9, 1);
        x.addStrip(0, 0, 9, 3);
        x.addStrip(0, 0, 8, 3);
        x.addStrip(0, 2, 5, 16);
        x.addStrip(0, 9, 9, 1);
        int[] want = {10, 4, 3, 1, 1};
        for (int strip = 0; strip < want.length; strip++) {
            Due.due("photoCount(" + strip + ")", x.photoCount(strip), want[strip]);
        }
        Due.due("photoCount(-1)", x.photoCount(-1), -2);
        Due.due("photoCount(5)", x.photoCount(5), -2);
        Due.due("photoCount(least)", x.photoCount(Integer.MIN_VALUE), -2);
    }

    private static void photoColumn() {
        AerialSurvey x = new AerialSurvey();
        x.addStrip(0, 1, 9, 4);
        Due.due("photoColumn(0, 0)", x.photoColumn(0, 0), 1);
        Due.due("photoColumn(0, 1)", x.photoColumn(0, 1), 5);
        Due.due("photoColumn(0, 2)", x.photoColumn(0, 2), 9);
        Due.due("photoColumn(0, 3)", x.photoColumn(0, 3), -3);
        Due.due("photoColumn(0, -1)", x.photoColumn(0, -1), -3);
        Due.due("photoColumn(0, greatest)", x.photoColumn(0, Integer.MAX_VALUE), -3);
        Due.due("photoColumn(1, 0)", x.photoColumn(1, 0), -2);
        Due.due("photoColumn(-1, -1)", x.photoColumn(-1, -1), -2);
    }
}
