/** Promise 22: planPhotos, and what a regular plan is. */
public final class Promise22PlanPhotosTest {
    public static void main(String[] args) {
        finds();
        spacings();
        rowsOfStrips();
        columnsOfStrips();
        atMostEightStrips();
        noGap();
        fewestPhotos();
        greatestRowSpacing();
        greatestPhotoSpacing();
        plansByHand();
        stripsAreLeftAlone();
        required();
        answers();
        Due.end();
    }

    private static void finds() {
        Due.sentence("Finds the best regular plan for a required coverage.");
        new Survey().unchangedBy(4, "planPhotos", 1).unchangedBy(8, "planPhotos", 2)
                .unchangedBy(60, "planPhotos", 9);
    }

    private static void spacings() {
        Due.sentence("A regular plan has a row spacing from 1 to the number of rows and a photo"
                + " spacing from 1 to the number of columns.");
        for (int rows : Ints.range(3, 10)) {
            for (int columns : Ints.range(4, 16)) {
                Plans.due(Plans.seeingAll(rows, columns), 1, 1, rows, columns);
                if (rows <= 8) {
                    Plans.due(Plans.seeingOneCell(rows, columns), 1, rows * columns, 1, 1);
                }
            }
        }
    }

    private static void rowsOfStrips() {
        Due.sentence("It has strips in the rows s, s + rowSpacing, s + 2 * rowSpacing and so on"
                + " below the number of rows, where s is rowSpacing / 2 rounded down.");
        int[][] plans = {
            // number of rows, rows that a photo sees beside its own, row spacing, rows of strips
            {8, 0, 1, 0, 1, 2, 3, 4, 5, 6, 7},
            {7, 1, 2, 1, 3, 5},
            {9, 1, 3, 1, 4, 7},
            {7, 2, 4, 2, 6},
            {10, 2, 5, 2, 7},
            {10, 3, 6, 3, 9},
            {7, 3, 7, 3},
            {8, 4, 8, 4},
            {9, 4, 9, 4},
            {10, 5, 10, 5},
        };
        for (int[] p : plans) {
            Survey x = Plans.seeingRows(p[0], 5, p[1]);
            Plans.due(x, 1, p.length - 3, p[2], 5);
            x.due(p.length - 3, "applyPlan", 1);
            for (int strip = 0; strip < p.length - 3; strip++) {
                Due.due("the row of strip " + strip, x.rowOf(strip), p[3 + strip]);
            }
        }
        // Only a strip in row 0 sees the hill, and only the row spacing 1 has a strip there.
        Survey hill = new Survey().with("resize", 3, 4).with("setFields", 50, 2)
                .with("setHeight", 0, 0, 600);
        Plans.due(hill, 1, 3, 1, 4);
    }

    private static void columnsOfStrips() {
        Due.sentence("Each strip goes from column 0 to the last column with the photo spacing.");
        // Photos at 0, 3, 6 and 9 in rows 1 and 4.
        Survey x = new Survey().with("applyPlan", 2);
        for (int strip = 0; strip < 2; strip++) {
            x.due(4, "photoCount", strip);
            for (int photo = 0; photo < 4; photo++) {
                x.due(3 * photo, "photoColumn", strip, photo);
            }
            x.due(90, "stripTime", strip, true);
        }
        // Even where its only photo is the one at column 0.
        Plans.seeingAll(10, 16).with("applyPlan", 1).due(1, "photoCount", 0)
                .due(0, "photoColumn", 0, 0).due(150, "stripTime", 0, true);
    }

    private static void atMostEightStrips() {
        Due.sentence("A plan is feasible if it has at most 8 strips and leaves no gap for the"
                + " required coverage.");
        // Only a strip in each row leaves no gap.
        Plans.due(Plans.seeingOneCell(8, 4), 1, 32, 1, 1);
        Plans.dueNone(Plans.seeingOneCell(9, 4), 1);
        Plans.dueNone(Plans.seeingOneCell(10, 4), 1);
        Plans.due(Plans.seeingRows(8, 16, 0), 1, 8, 1, 16);
        Plans.dueNone(Plans.seeingRows(9, 16, 0), 1);
        // Nine strips of one photo would be the fewest for 9; three strips of four photos are due.
        Plans.due(Plans.seeingAll(9, 4), 9, 12, 3, 1);
    }

    private static void noGap() {
        // One photo sees all but a cell with a hill; two photos see that one, too.
        Survey x = new Survey().with("setFields", 50, 50);
        Plans.due(x, 1, 1, 6, 10);
        x.with("setHeight", 0, 9, 900);
        Plans.due(x, 1, 2, 6, 9);
        // A cell as high as the photos is seen by none.
        Plans.dueNone(Plans.seeingAll(6, 10).with("setHeight", 5, 9, 999).with("setAltitude", 999), 1);
        // With one cell for each photo no cell is seen twice.
        Plans.due(Plans.seeingOneCell(6, 10), 1, 60, 1, 1);
        Plans.dueNone(Plans.seeingOneCell(6, 10), 2);
        // Each photo sees all cells, and only three strips of four photos are nine and more.
        Plans.due(Plans.seeingAll(3, 4), 9, 12, 1, 1);
    }

    private static void fewestPhotos() {
        Due.sentence("The best plan is the feasible plan with the fewest photos;");
        // Each photo sees all, so that just as many photos are needed as there are plans for.
        int[] photos = {0, 1, 2, 3, 4, 5, 6, 8, 8, 9};
        Survey x = Plans.seeingAll(6, 10);
        for (int required : Ints.range(1, 9)) {
            x.due(photos[required], "planPhotos", required);
        }
        // Fewer photos go before greater row spacings: 2 strips of 4, not 1 strip of 10.
        Plans.due(x, 7, 8, 3, 3);
    }

    private static void greatestRowSpacing() {
        Due.sentence("if there are several, the one with the greatest row spacing;");
        Survey x = Plans.seeingAll(6, 10);
        // Two photos in one strip of spacing 9 (rows 6, 5 or 4), or one in each of two strips
        // with the photo spacing 10: the row spacing goes before the photo spacing.
        Plans.due(x, 2, 2, 6, 9);
        Plans.due(x, 3, 3, 6, 4);
        Plans.due(x, 4, 4, 6, 3);
        Plans.due(x, 5, 5, 6, 2);
        Plans.due(x, 6, 6, 3, 4);
        Plans.due(x, 9, 9, 2, 4);
        // Two strips in rows 2 and 7 or, with spacing 4, in rows 2 and 6.
        Plans.due(Plans.seeingRows(8, 5, 2), 1, 2, 5, 5);
    }

    private static void greatestPhotoSpacing() {
        Due.sentence("if there are still several, the one with the greatest photo spacing.");
        // Two photos at 0 and 5, 6, 7, 8 or 9 of ten columns; three at 0, 4 and 8.
        Plans.due(Plans.seeingAll(6, 10), 2, 2, 6, 9);
        Plans.due(Plans.seeingAll(6, 10), 3, 3, 6, 4);
        Plans.due(Plans.seeingAll(6, 16), 2, 2, 6, 15);
        Plans.due(Plans.seeingAll(6, 16), 3, 3, 6, 7);
    }

    private static void plansByHand() {
        Survey[] surveys = {
            new Survey().with("resize", 6, 10),
            new Survey().with("resize", 10, 16).with("setFields", 6, 5).with("raiseHill", 4, 9, 4, 400),
            new Survey().with("resize", 5, 9).with("setCrab", 30).with("raiseHill", 1, 2, 2, 500),
            new Survey().with("resize", 9, 7).with("setFields", 5, 9).with("setCrab", -60),
            new Survey().with("resize", 3, 16).with("setAltitude", 1500).with("raiseHill", 1, 8, 5, 999),
            new Survey().with("resize", 10, 4).with("setFields", 2, 3),
        };
        int[][] sizes = {{6, 10}, {10, 16}, {5, 9}, {9, 7}, {3, 16}, {10, 4}};
        int feasible = 0;
        for (int i = 0; i < surveys.length; i++) {
            int[][] best = Plans.byHand(surveys[i], sizes[i][0], sizes[i][1]);
            for (int required : Ints.range(1, 9)) {
                int[] plan = best[required] == null ? new int[] {-6, -6, -6} : best[required];
                Plans.due(surveys[i].copy(), required, plan[0], plan[1], plan[2]);
                feasible += best[required] == null ? 0 : 1;
            }
        }
        Due.due("some plans are feasible and some are not", feasible > 20 && feasible < 54);
    }

    private static void stripsAreLeftAlone() {
        Due.sentence("The strips of the survey are not changed and not considered.");
        // Eight strips, which see each cell nine times and more: the plans are as without them.
        Survey x = new Survey();
        for (int strip = 0; strip < 8; strip++) {
            x.with("addStrip", strip % 6, 0, 9, 1);
        }
        x.copy().due(0, "gapCount", 9);
        x.unchangedBy(4, "planPhotos", 1).unchangedBy(8, "planPhotos", 2)
                .unchangedBy(60, "planPhotos", 9);
        // No photo of theirs sees all, and no plan with them counts their photos.
        Survey y = Plans.seeingOneCell(6, 10).with("addStrip", 2, 0, 9, 1);
        y.unchangedBy(60, "planPhotos", 1).unchangedBy(-6, "planPhotos", 2);
    }

    private static void required() {
        Due.sentence("`required`: from 1 to 9");
        Survey x = new Survey().with("addStrip", 2, 1, 8, 3);
        for (int required : Ints.outside(1, 9)) {
            x.refused(-4, "planPhotos", required);
        }
    }

    private static void answers() {
        Due.sentence("Returns the number of photos of the best plan; BAD_VALUE; NONE if no plan is"
                + " feasible.");
        Survey none = Plans.seeingOneCell(6, 10).with("addStrip", 2, 1, 8, 3);
        Plans.dueNone(none, 2);
        Plans.dueNone(none, 9);
        none.refused(-4, "planPhotos", 0).refused(-4, "planPhotos", 10);
        // What one search found is not what the next one answers.
        new Survey().due(8, "planPhotos", 2).with("setFields", 1, 1).due(-6, "planPhotos", 9)
                .due(20, "planPhotos", 2).with("setFields", 3, 2).due(8, "planPhotos", 2);
    }
}
