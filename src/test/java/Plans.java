/** Surveys for the tests of regular plans, and the plan that is due for them. */
final class Plans {
    private Plans() {
    }

    /** Each photo sees all cells. */
    static Survey seeingAll(int rows, int columns) {
        return new Survey().with("resize", rows, columns).with("setAltitude", 5000)
                .with("setFields", 50, 50);
    }

    /** Each photo sees its own cell alone. */
    static Survey seeingOneCell(int rows, int columns) {
        return new Survey().with("resize", rows, columns).with("setAltitude", 100)
                .with("setFields", 1, 1);
    }

    /** Each photo sees all columns of its row and of so many rows above and below. */
    static Survey seeingRows(int rows, int columns, int beside) {
        return new Survey().with("resize", rows, columns)
                .with("setAltitude", beside == 0 ? 500 : 1000)
                .with("setFields", 50, Math.max(1, beside));
    }

    static void due(Survey x, int required, int photos, int rowSpacing, int photoSpacing) {
        x.due(photos, "planPhotos", required).due(rowSpacing, "planRowSpacing", required)
                .due(photoSpacing, "planPhotoSpacing", required);
    }

    static void dueNone(Survey x, int required) {
        x.refused(-6, "planPhotos", required).refused(-6, "planRowSpacing", required)
                .refused(-6, "planPhotoSpacing", required).refused(-6, "applyPlan", required);
    }

    /**
     * The best plans of a survey without strips, for each required coverage: every plan is laid
     * out by addStrip and asked by gapCount. Each is {photos, row spacing, photo spacing}, or null.
     */
    static int[][] byHand(Survey x, int rows, int columns) {
        int[][] best = new int[10][];
        for (int rowSpacing = 1; rowSpacing <= rows; rowSpacing++) {
            for (int photoSpacing = 1; photoSpacing <= columns; photoSpacing++) {
                Survey plan = x.copy();
                int photos = layOut(plan, rows, columns, rowSpacing, photoSpacing);
                for (int required = 1; required <= 9 && photos > 0; required++) {
                    // Spacings ascend, so among equals the later plan is the better one.
                    if (plan.ask("gapCount", required) == 0
                            && (best[required] == null || photos <= best[required][0])) {
                        best[required] = new int[] {photos, rowSpacing, photoSpacing};
                    }
                }
            }
        }
        return best;
    }

    /** Adds a plan's strips and returns the number of photos, or -1 if there are too many strips. */
    private static int layOut(Survey x, int rows, int columns, int rowSpacing, int photoSpacing) {
        int photos = 0;
        for (int row = rowSpacing / 2; row < rows; row += rowSpacing) {
            int strip = x.ask("addStrip", row, 0, columns - 1, photoSpacing);
            if (strip == -5) {
                return -1;
            }
            photos += x.ask("photoCount", strip);
        }
        return photos;
    }
}
