/** Promises 15 to 21: what photos see, coverage, gaps and overlaps. */
public final class CoverageTest {
    public static void main(String[] args) {
        fieldsOnFlatTerrain();
        crabTurnsTheView();
        heightNarrowsTheView();
        lineOfSightRoundsUp();
        lineOfSightTouchesTheGround();
        seesCellWrong();
        footprintSize();
        coverage();
        gaps();
        gapsWrong();
        forwardOverlap();
        sideOverlap();
        overlapsAtTheTerrainsEdges();
        Due.end();
    }

    private static AerialSurvey onePhotoAt(int row, int column) {
        AerialSurvey x = new AerialSurvey();
        x.addStrip(row, column, column, 1);
        return x;
    }

    private static void fieldsOnFlatTerrain() {
        AerialSurvey x = onePhotoAt(2, 4);
        for (int row = 0; row < 6; row++) {
            for (int column = 0; column < 10; column++) {
                boolean near = Math.abs(row - 2) <= 2 && Math.abs(column - 4) <= 3;
                Due.due("seesCell(0, 0, " + row + ", " + column + ")",
                        x.seesCell(0, 0, row, column), near ? 1 : 0);
            }
        }
    }

    private static void crabTurnsTheView() {
        AerialSurvey x = onePhotoAt(2, 4);
        x.setCrab(40);
        Due.due("2 down, 2 right", x.seesCell(0, 0, 4, 6), 1);
        Due.due("2 down, 2 left", x.seesCell(0, 0, 4, 2), 0);
        Due.due("2 up, 2 left", x.seesCell(0, 0, 0, 2), 1);
        Due.due("2 up, 2 right", x.seesCell(0, 0, 0, 6), 0);
        Due.due("1 down, 3 right", x.seesCell(0, 0, 3, 7), 0);
        Due.due("3 right", x.seesCell(0, 0, 2, 7), 1);
        x.setCrab(-40);
        Due.due("2 down, 2 right", x.seesCell(0, 0, 4, 6), 0);
        Due.due("2 down, 2 left", x.seesCell(0, 0, 4, 2), 1);
        // |100 * 2 + 50 * 2| and |100 * 2| are just within 300 and 200.
        x.setCrab(50);
        Due.due("at the edge", x.seesCell(0, 0, 4, 6), 1);
        x.setCrab(51);
        Due.due("beyond the edge", x.seesCell(0, 0, 4, 6), 0);
    }

    private static void heightNarrowsTheView() {
        AerialSurvey x = onePhotoAt(2, 4);
        Due.due("3 right", x.seesCell(0, 0, 2, 7), 1);
        x.setHeight(2, 7, 1);
        Due.due("3 right at height 1", x.seesCell(0, 0, 2, 7), 0);
        x.setHeight(4, 4, 1);
        Due.due("2 down at height 1", x.seesCell(0, 0, 4, 4), 0);
        x.setHeight(2, 4, 999);
        Due.due("its own cell just below", x.seesCell(0, 0, 2, 4), 1);
        x.setAltitude(999);
        Due.due("its own cell at the altitude", x.seesCell(0, 0, 2, 4), 0);
        x.setAltitude(998);
        Due.due("its own cell above the altitude", x.seesCell(0, 0, 2, 4), 0);
    }

    private static void lineOfSightRoundsUp() {
        // From (2, 4): cells that lie half between two are passed at the greater number.
        int[][] passes = {
            // target, the cell passed on the way, the cell beside it
            {3, 6, 3, 5, 2, 5},
            {1, 6, 2, 5, 1, 5},
            {3, 2, 3, 3, 2, 3},
            {1, 2, 2, 3, 1, 3},
            {4, 5, 3, 5, 3, 4},
            {4, 3, 3, 4, 3, 3},
            {0, 5, 1, 5, 1, 4},
            {0, 3, 1, 4, 1, 3},
        };
        for (int[] p : passes) {
            String target = "seesCell(0, 0, " + p[0] + ", " + p[1] + ")";
            AerialSurvey x = onePhotoAt(2, 4);
            x.setHeight(p[4], p[5], 999);
            Due.due(target + " beside a hill", x.seesCell(0, 0, p[0], p[1]), 1);
            x.setHeight(p[2], p[3], 999);
            Due.due(target + " behind a hill", x.seesCell(0, 0, p[0], p[1]), 0);
        }
        // Three columns and one row: a third rounds to 0, two thirds to 1.
        AerialSurvey x = onePhotoAt(2, 4);
        x.setHeight(3, 5, 999);
        x.setHeight(2, 6, 999);
        Due.due("beside both", x.seesCell(0, 0, 3, 7), 1);
        x.setHeight(2, 5, 999);
        Due.due("behind the first", x.seesCell(0, 0, 3, 7), 0);
        x.setHeight(2, 5, 0);
        x.setHeight(3, 6, 999);
        Due.due("behind the second", x.seesCell(0, 0, 3, 7), 0);
    }

    private static void lineOfSightTouchesTheGround() {
        AerialSurvey x = onePhotoAt(2, 0);
        x.setHeight(2, 1, 500);
        Due.due("touching", x.seesCell(0, 0, 2, 2), 1);
        x.setHeight(2, 1, 501);
        Due.due("blocked", x.seesCell(0, 0, 2, 2), 0);
        x.setHeight(2, 2, 200);
        x.setHeight(2, 1, 600);
        Due.due("a higher target, touching", x.seesCell(0, 0, 2, 2), 1);
        x.setHeight(2, 1, 601);
        Due.due("a higher target, blocked", x.seesCell(0, 0, 2, 2), 0);
        Due.due("the hill itself", x.seesCell(0, 0, 2, 1), 1);
        // The second of two cells on the way lies under a lower part of the line.
        AerialSurvey y = onePhotoAt(2, 0);
        y.setHeight(2, 2, 333);
        Due.due("far on the way, free", y.seesCell(0, 0, 2, 3), 1);
        y.setHeight(2, 2, 334);
        Due.due("far on the way, blocked", y.seesCell(0, 0, 2, 3), 0);
        // The ground below the photo and at the target never blocks.
        x.setHeight(2, 0, 999);
        x.setHeight(2, 1, 0);
        Due.due("from above a hill", x.seesCell(0, 0, 2, 2), 1);
        x.setAltitude(500);
        x.setFields(50, 50);
        Due.due("from below the ground, its own cell", x.seesCell(0, 0, 2, 0), 0);
        Due.due("from below the ground, a cell beyond", x.seesCell(0, 0, 2, 2), 1);
    }

    private static void seesCellWrong() {
        AerialSurvey x = onePhotoAt(2, 4);
        Due.due("seesCell(1, 9, 9, 99)", x.seesCell(1, 9, 9, 99), -2);
        Due.due("seesCell(-1, 0, 0, 0)", x.seesCell(-1, 0, 0, 0), -2);
        Due.due("seesCell(0, 1, 9, 99)", x.seesCell(0, 1, 9, 99), -3);
        Due.due("seesCell(0, -1, 0, 0)", x.seesCell(0, -1, 0, 0), -3);
        Due.due("seesCell(0, 0, -1, 0)", x.seesCell(0, 0, -1, 0), -1);
        Due.due("seesCell(0, 0, 6, 0)", x.seesCell(0, 0, 6, 0), -1);
        Due.due("seesCell(0, 0, 0, -1)", x.seesCell(0, 0, 0, -1), -1);
        Due.due("seesCell(0, 0, 0, 10)", x.seesCell(0, 0, 0, 10), -1);
    }

    private static void footprintSize() {
        AerialSurvey x = new AerialSurvey();
        x.addStrip(0, 0, 9, 4);
        Due.due("footprintSize(0, 0)", x.footprintSize(0, 0), 12);
        Due.due("footprintSize(0, 1)", x.footprintSize(0, 1), 21);
        Due.due("footprintSize(0, 2)", x.footprintSize(0, 2), 15);
        Due.due("footprintSize(0, 3)", x.footprintSize(0, 3), -3);
        Due.due("footprintSize(0, -1)", x.footprintSize(0, -1), -3);
        Due.due("footprintSize(1, 9)", x.footprintSize(1, 9), -2);
        x.setAltitude(5000);
        x.setFields(50, 50);
        Due.due("all cells", x.footprintSize(0, 0), 60);
        x.setAltitude(100);
        x.setFields(1, 1);
        x.setHeight(0, 0, 100);
        Due.due("no cell", x.footprintSize(0, 0), 0);
    }

    private static void coverage() {
        AerialSurvey x = new AerialSurvey();
        Due.due("coverage without strips", x.coverage(0, 0), 0);
        x.addStrip(2, 0, 9, 1);
        x.addStrip(3, 4, 4, 1);
        Due.due("coverage(2, 4)", x.coverage(2, 4), 8);
        Due.due("coverage(2, 0)", x.coverage(2, 0), 4);
        Due.due("coverage(5, 4)", x.coverage(5, 4), 1);
        Due.due("coverage(5, 9)", x.coverage(5, 9), 0);
        Due.due("coverage(6, 0)", x.coverage(6, 0), -1);
        Due.due("coverage(-1, 0)", x.coverage(-1, 0), -1);
        Due.due("coverage(0, 10)", x.coverage(0, 10), -1);
        Due.due("coverage(0, -1)", x.coverage(0, -1), -1);
        x.resize(10, 16);
        x.setAltitude(5000);
        x.setFields(50, 50);
        for (int strip = 0; strip < 8; strip++) {
            x.addStrip(strip, 0, 15, 1);
        }
        Due.due("coverage by all photos", x.coverage(9, 15), 128);
    }

    private static void gaps() {
        AerialSurvey x = new AerialSurvey();
        Due.due("gapCount(1) without strips", x.gapCount(1), 60);
        Due.due("gapAt(1, 0) without strips", x.gapAt(1, 0), 0);
        Due.due("gapAt(9, 59) without strips", x.gapAt(9, 59), 509);
        Due.due("gapAt(9, 60) without strips", x.gapAt(9, 60), -6);
        x.addStrip(2, 4, 4, 1);
        // One photo sees rows 0 to 4, columns 1 to 7.
        Due.due("gapCount(1)", x.gapCount(1), 25);
        Due.due("gapCount(2)", x.gapCount(2), 60);
        Due.due("gapAt(1, 0)", x.gapAt(1, 0), 0);
        Due.due("gapAt(1, 1)", x.gapAt(1, 1), 8);
        Due.due("gapAt(1, 3)", x.gapAt(1, 3), 100);
        Due.due("gapAt(1, 24)", x.gapAt(1, 24), 509);
        Due.due("gapAt(1, 25)", x.gapAt(1, 25), -6);
        Due.due("gapAt(1, greatest)", x.gapAt(1, Integer.MAX_VALUE), -6);
        x.setAltitude(5000);
        x.setFields(50, 50);
        Due.due("gapCount(1) of a wide view", x.gapCount(1), 0);
        Due.due("gapAt(1, 0) of a wide view", x.gapAt(1, 0), -6);
        for (int strip = 1; strip < 8; strip++) {
            x.addStrip(strip % 6, 4, strip == 7 ? 5 : 4, 1);
        }
        Due.due("coverage(0, 0)", x.coverage(0, 0), 9);
        Due.due("gapCount(9) of nine photos", x.gapCount(9), 0);
        x.removeStrip(0);
        Due.due("gapCount(8) of eight photos", x.gapCount(8), 0);
        Due.due("gapCount(9) of eight photos", x.gapCount(9), 60);
    }

    private static void gapsWrong() {
        AerialSurvey x = onePhotoAt(2, 4);
        int[] wrong = {0, 10, -1, Integer.MAX_VALUE, Integer.MIN_VALUE};
        for (int w : wrong) {
            Due.due("gapCount(" + w + ")", x.gapCount(w), -4);
            Due.due("gapAt(" + w + ", 0)", x.gapAt(w, 0), -4);
            Due.due("gapAt(" + w + ", 99)", x.gapAt(w, 99), -4);
        }
        Due.due("gapAt(1, -1)", x.gapAt(1, -1), -4);
        Due.due("gapAt(1, least)", x.gapAt(1, Integer.MIN_VALUE), -4);
    }

    private static void forwardOverlap() {
        AerialSurvey x = new AerialSurvey();
        x.addStrip(2, 0, 9, 4);
        // The photos at 0, 4 and 8 see columns 0 to 3, 1 to 7 and 5 to 9.
        Due.due("forwardOverlap(0, 0)", x.forwardOverlap(0, 0), 75);
        Due.due("forwardOverlap(0, 1)", x.forwardOverlap(0, 1), 60);
        Due.due("forwardOverlap(0, 2)", x.forwardOverlap(0, 2), -3);
        Due.due("forwardOverlap(0, 3)", x.forwardOverlap(0, 3), -3);
        Due.due("forwardOverlap(0, -1)", x.forwardOverlap(0, -1), -3);
        Due.due("forwardOverlap(0, greatest)", x.forwardOverlap(0, Integer.MAX_VALUE), -3);
        Due.due("forwardOverlap(1, 0)", x.forwardOverlap(1, 0), -2);
        Due.due("forwardOverlap(-1, -1)", x.forwardOverlap(-1, -1), -2);
        x.addStrip(2, 3, 9, 5);
        // Columns 0 to 6 and 5 to 9: 2 of 5 columns.
        Due.due("forwardOverlap(1, 0)", x.forwardOverlap(1, 0), 40);
        x.addStrip(2, 1, 9, 3);
        // Columns 0 to 4, 1 to 7 and 4 to 9: 4 of 5 and 4 of 6 columns.
        Due.due("forwardOverlap(2, 0)", x.forwardOverlap(2, 0), 80);
        Due.due("forwardOverlap(2, 1), rounded down", x.forwardOverlap(2, 1), 66);
        x.setAltitude(100);
        Due.due("without a shared cell", x.forwardOverlap(0, 0), 0);
        x.setHeight(2, 0, 100);
        Due.due("the first sees no cell", x.forwardOverlap(0, 0), 0);
        x.setHeight(2, 4, 100);
        Due.due("both see no cell", x.forwardOverlap(0, 0), 0);
    }

    private static void overlapsAtTheTerrainsEdges() {
        AerialSurvey x = new AerialSurvey();
        x.addStrip(2, 0, 9, 4);
        x.setHeight(0, 1, 999);
        Due.due("14 of 19 cells", x.forwardOverlap(0, 0), 73);
        AerialSurvey y = new AerialSurvey();
        y.addStrip(5, 0, 9, 4);
        y.setHeight(3, 1, 999);
        Due.due("8 of 11 cells", y.forwardOverlap(0, 0), 72);
        AerialSurvey v = new AerialSurvey();
        v.addStrip(0, 0, 9, 4);
        v.setHeight(2, 1, 999);
        Due.due("8 of 11 cells in the first rows", v.forwardOverlap(0, 0), 72);
        AerialSurvey z = new AerialSurvey();
        z.resize(6, 4);
        z.addStrip(0, 1, 1, 1);
        z.addStrip(3, 1, 1, 1);
        z.setHeight(0, 0, 999);
        Due.due("8 of 11 cells of two strips", z.sideOverlap(0, 1), 72);
        AerialSurvey w = new AerialSurvey();
        w.addStrip(2, 4, 4, 1);
        w.addStrip(2, 0, 0, 1);
        Due.due("15 of 20 cells of two strips", w.sideOverlap(0, 1), 75);
    }

    private static void sideOverlap() {
        AerialSurvey x = new AerialSurvey();
        x.addStrip(0, 0, 9, 3);
        x.addStrip(3, 0, 9, 3);
        x.addStrip(5, 0, 9, 3);
        // The strips see rows 0 to 2, 1 to 5 and 3 to 5, in all columns.
        Due.due("sideOverlap(0, 1)", x.sideOverlap(0, 1), 66);
        Due.due("sideOverlap(1, 0)", x.sideOverlap(1, 0), 66);
        Due.due("sideOverlap(1, 2)", x.sideOverlap(1, 2), 100);
        Due.due("sideOverlap(0, 2)", x.sideOverlap(0, 2), 0);
        Due.due("sideOverlap(1, 1)", x.sideOverlap(1, 1), 100);
        Due.due("sideOverlap(0, 3)", x.sideOverlap(0, 3), -2);
        Due.due("sideOverlap(3, 0)", x.sideOverlap(3, 0), -2);
        Due.due("sideOverlap(-1, 0)", x.sideOverlap(-1, 0), -2);
        Due.due("sideOverlap(0, -1)", x.sideOverlap(0, -1), -2);
        x.addStrip(2, 0, 0, 1);
        // Rows 0 to 4, columns 0 to 3; strip 1 sees 16 of these 20 cells.
        Due.due("sideOverlap(1, 3)", x.sideOverlap(1, 3), 80);
        x.setAltitude(100);
        x.setHeight(2, 0, 100);
        Due.due("one sees no cell", x.sideOverlap(0, 3), 0);
        Due.due("a strip that sees no cell and itself", x.sideOverlap(3, 3), 0);
    }
}
