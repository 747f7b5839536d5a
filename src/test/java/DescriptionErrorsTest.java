/** 'Description', the paragraph on errors and the list of the constants. */
public final class DescriptionErrorsTest {
    public static void main(String[] args) {
        constants();
        orderOfChecks();
        refusedCallsChangeNothing();
        outsideTerrain();
        noSuchStrip();
        noSuchPhoto();
        badValue();
        full();
        none();
        Due.end();
    }

    private static Survey busy() {
        return new Survey().with("resize", 7, 11).with("raiseHill", 3, 5, 2, 600)
                .with("setAltitude", 1200).with("setFields", 4, 3).with("setCrab", 20)
                .with("setSpeed", 90, 15, 45).with("addStrip", 1, 0, 10, 3)
                .with("addStrip", 4, 2, 9, 2).with("addStrip", 6, 5, 5, 1);
    }

    private static void constants() {
        Due.sentence("Errors. Errors are reported by the negative constants below.");
        Due.due("OUTSIDE_TERRAIN", AerialSurvey.OUTSIDE_TERRAIN, -1);
        Due.due("NO_SUCH_STRIP", AerialSurvey.NO_SUCH_STRIP, -2);
        Due.due("NO_SUCH_PHOTO", AerialSurvey.NO_SUCH_PHOTO, -3);
        Due.due("BAD_VALUE", AerialSurvey.BAD_VALUE, -4);
        Due.due("FULL", AerialSurvey.FULL, -5);
        Due.due("NONE", AerialSurvey.NONE, -6);
    }

    private static void orderOfChecks() {
        Due.sentence("Where several errors can apply, the order of the @return line is the order of"
                + " the checks.");
        Survey x = busy();
        x.refused(-1, "setHeight", 7, 0, 1000);
        x.refused(-1, "raiseHill", 0, 11, 6, 0);
        x.refused(-1, "addStrip", 7, 5, 4, 0);
        x.refused(-2, "photoColumn", 3, 99);
        x.refused(-2, "seesCell", 3, 99, 99, 99);
        x.refused(-3, "seesCell", 0, 4, 99, 99);
        x.refused(-2, "footprintSize", 3, 99);
        x.refused(-4, "gapAt", 0, 999);
        x.refused(-2, "forwardOverlap", 3, 99);
        x.refused(-1, "routeStep", 7, 0, -1);
        x.refused(-1, "routeStep", 0, 11, 3);
        x.refused(-4, "routeStep", 0, 0, -1);
        for (int strip = 3; strip < 8; strip++) {
            x.with("addStrip", 0, 0, 0, 1);
        }
        x.refused(-1, "addStrip", 0, 0, 11, 1);
        x.refused(-4, "addStrip", 0, 0, 10, 17);
        x.refused(-5, "addStrip", 0, 0, 10, 16);
    }

    private static void refusedCallsChangeNothing() {
        Due.sentence("A call that reports an error changes nothing.");
        // One refused call of every kind behind the other: what stood before still stands.
        Survey x = busy();
        Object[][] refused = {
            {"resize", 2, 16}, {"resize", 10, 17}, {"setHeight", 7, 0, 5}, {"setHeight", 0, 0, 1000},
            {"raiseHill", -1, 0, 1, 1}, {"raiseHill", 3, 5, 6, 1}, {"height", 7, 11},
            {"setAltitude", 99}, {"setFields", 50, 51}, {"setFields", 0, 50}, {"setCrab", 101},
            {"setSpeed", 300, 40, 501}, {"setSpeed", 300, 41, 500}, {"setSpeed", 301, 40, 500},
            {"addStrip", 7, 0, 1, 1}, {"addStrip", 0, 1, 0, 1}, {"addStrip", 0, 0, 1, 17},
            {"removeStrip", 3}, {"photoCount", 3}, {"photoColumn", 0, 4}, {"seesCell", 0, 0, 7, 0},
            {"footprintSize", 0, 4}, {"coverage", 7, 0}, {"gapCount", 10}, {"gapAt", 9, 99},
            {"forwardOverlap", 0, 3}, {"sideOverlap", 0, 3}, {"planPhotos", 0},
            {"planRowSpacing", 10}, {"planPhotoSpacing", 0}, {"applyPlan", 10}, {"applyPlan", 0},
            {"stripTime", 3, true}, {"routeTime", 7, 0}, {"routeStep", 0, 0, 3},
        };
        for (Object[] call : refused) {
            Object[] arguments = java.util.Arrays.copyOfRange(call, 1, call.length);
            int answer = x.copy().ask((String) call[0], arguments);
            Due.due(call[0] + " answers an error", answer >= -6 && answer <= -1);
            x.unchangedBy(answer, (String) call[0], arguments);
        }
    }

    private static void outsideTerrain() {
        Due.sentence("`OUTSIDE_TERRAIN = -1`: A row or column is not in the terrain.");
        Survey x = busy();
        for (int row : Ints.outside(0, 6)) {
            x.refused(AerialSurvey.OUTSIDE_TERRAIN, "height", row, 0);
        }
        for (int column : Ints.outside(0, 10)) {
            x.refused(AerialSurvey.OUTSIDE_TERRAIN, "height", 0, column);
        }
    }

    private static void noSuchStrip() {
        Due.sentence("`NO_SUCH_STRIP = -2`: There is no strip with this number.");
        Survey x = busy();
        for (int strip : Ints.outside(0, 2)) {
            x.refused(AerialSurvey.NO_SUCH_STRIP, "photoCount", strip);
        }
    }

    private static void noSuchPhoto() {
        Due.sentence("`NO_SUCH_PHOTO = -3`: The strip has no photo with this number.");
        Survey x = busy();
        for (int photo : Ints.outside(0, 3)) {
            x.refused(AerialSurvey.NO_SUCH_PHOTO, "photoColumn", 0, photo);
        }
    }

    private static void badValue() {
        Due.sentence("`BAD_VALUE = -4`: Another argument is out of range.");
        Survey x = busy();
        for (int required : Ints.outside(1, 9)) {
            x.refused(AerialSurvey.BAD_VALUE, "gapCount", required);
        }
    }

    private static void full() {
        Due.sentence("`FULL = -5`: There are already 8 strips.");
        Survey x = new Survey();
        for (int strip = 0; strip < 8; strip++) {
            x.due(strip, "addStrip", 0, strip, 9, 1);
        }
        x.refused(AerialSurvey.FULL, "addStrip", 0, 0, 9, 1);
    }

    private static void none() {
        Due.sentence("`NONE = -6`: There is no result.");
        Survey x = new Survey();
        x.refused(AerialSurvey.NONE, "gapAt", 1, 60);
        x.refused(AerialSurvey.NONE, "routeStep", 0, 0, 0);
        x.with("setAltitude", 100).refused(AerialSurvey.NONE, "planPhotos", 2);
    }
}
