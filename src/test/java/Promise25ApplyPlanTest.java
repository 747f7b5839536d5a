/** Promise 25: applyPlan. What the best plan is is tested in Promise22PlanPhotosTest. */
public final class Promise25ApplyPlanTest {
    public static void main(String[] args) {
        replaces();
        leavesAllElse();
        required();
        answers();
        noPlan();
        Due.end();
    }

    private static Survey eight() {
        Survey x = new Survey();
        for (int strip = 0; strip < 8; strip++) {
            x.with("addStrip", strip % 6, strip, 9, 2);
        }
        return x;
    }

    private static void dueStrips(Survey x, int spacing, int photos, int... rows) {
        x.due(rows.length, "stripCount");
        for (int strip = 0; strip < rows.length; strip++) {
            Due.due("the row of strip " + strip, x.rowOf(strip), rows[strip]);
            x.due(photos, "photoCount", strip);
            for (int photo = 0; photo < photos; photo++) {
                x.due(photo * spacing, "photoColumn", strip, photo);
            }
            x.due(90, "stripTime", strip, true).due(90, "stripTime", strip, false);
        }
        x.due(-2, "photoCount", rows.length);
    }

    private static void replaces() {
        Due.sentence("Replaces all strips by those of the best regular plan (see planPhotos), in"
                + " order of ascending row.");
        // Without strips before, with more and with fewer strips before.
        dueStrips(new Survey().due(2, "applyPlan", 2), 3, 4, 1, 4);
        dueStrips(eight().due(2, "applyPlan", 2), 3, 4, 1, 4);
        dueStrips(new Survey().with("addStrip", 5, 9, 9, 1).due(6, "applyPlan", 9),
                1, 10, 0, 1, 2, 3, 4, 5);
        dueStrips(eight().due(2, "applyPlan", 2).due(6, "applyPlan", 9).due(2, "applyPlan", 2),
                3, 4, 1, 4);
        // The plan leaves no gap, and the next strip gets the next number.
        eight().due(2, "applyPlan", 2).due(0, "gapCount", 2).due(2, "addStrip", 0, 0, 9, 1)
                .due(2, "removeStrip", 0).due(1, "removeStrip", 0);
    }

    private static void leavesAllElse() {
        Survey x = new Survey().with("resize", 7, 11).with("raiseHill", 3, 5, 2, 300)
                .with("setAltitude", 1200).with("setFields", 4, 3).with("setCrab", 10)
                .with("setSpeed", 90, 15, 45);
        Survey y = x.copy().with("applyPlan", 1);
        for (int row = 0; row < 7; row++) {
            for (int column = 0; column < 11; column++) {
                y.due(x.ask("height", row, column), "height", row, column);
            }
        }
        y.due(-1, "height", 7, 0).due(-1, "height", 0, 11).due(1200, "setAltitude", 1200)
                .due(0, "setFields", 4, 3).due(0, "setCrab", 10).due(0, "setSpeed", 90, 15, 45);
    }

    private static void required() {
        Due.sentence("`required`: from 1 to 9");
        int[] strips = {0, 1, 1, 1, 1, 1, 2, 2, 2, 3};
        for (int required : Ints.range(1, 9)) {
            Plans.seeingAll(6, 10).due(strips[required], "applyPlan", required)
                    .due(0, "gapCount", required);
        }
        for (int required : Ints.outside(1, 9)) {
            eight().refused(-4, "applyPlan", required);
            new Survey().refused(-4, "applyPlan", required);
        }
    }

    private static void answers() {
        Due.sentence("Returns the number of strips; BAD_VALUE;");
        Plans.seeingOneCell(8, 4).due(8, "applyPlan", 1).due(8, "stripCount")
                .due(-5, "addStrip", 0, 0, 3, 1);
        Plans.seeingOneCell(3, 4).due(3, "applyPlan", 1);
        Plans.seeingOneCell(6, 10).with("addStrip", 2, 1, 8, 3).refused(-4, "applyPlan", 0)
                .refused(-4, "applyPlan", 10);
    }

    private static void noPlan() {
        Due.sentence("NONE if no plan is feasible (the strips stay then).");
        Survey x = Plans.seeingOneCell(6, 10).with("addStrip", 2, 1, 8, 3)
                .with("addStrip", 5, 0, 9, 2);
        x.refused(-6, "applyPlan", 2).refused(-6, "applyPlan", 9);
        x.with("setHeight", 0, 0, 100).refused(-6, "applyPlan", 1);
        Plans.seeingOneCell(9, 4).refused(-6, "applyPlan", 1);
        Survey full = eight().with("setAltitude", 100);
        full.refused(-6, "applyPlan", 2);
        // The plan of an earlier call does not come back.
        new Survey().due(2, "applyPlan", 2).with("addStrip", 0, 0, 9, 1).with("setFields", 1, 1)
                .refused(-6, "applyPlan", 9).due(-6, "applyPlan", 9).due(3, "stripCount");
    }
}
