/** 'Description', the paragraph on visibility, with its rounding. */
public final class DescriptionVisibilityTest {
    public static void main(String[] args) {
        differences();
        allConditions();
        altitudeAboveTheCell();
        alongTrack();
        acrossTrack();
        fieldsEverywhere();
        linePassesRoundedCells();
        exactHalvesGoUp();
        nearestBeforeHalves();
        lineBlocked();
        lineBlockedByHeightsAtTheLimit();
        noCellBetween();
        quotientsRoundedDown();
        Due.end();
    }

    /** A terrain of 10 rows and 16 columns with one photo, seen as far as can be. */
    private static Survey wide(int row, int column) {
        return new Survey().with("resize", 10, 16).with("setFields", 50, 50)
                .with("addStrip", row, column, column, 1);
    }

    private static void differences() {
        Due.sentence("Visibility. Consider a photo taken in row pr and column pc, and a cell in row"
                + " r and column c with height h. Let dr = r - pr, dc = c - pc, and let A be the"
                + " altitude.");
        // Crab tells dr and dc from their negatives, the fields tell rows from columns.
        Survey x = new Survey().with("addStrip", 2, 4, 4, 1).with("setCrab", 40);
        x.due(1, "seesCell", 0, 0, 4, 6);
        x.due(0, "seesCell", 0, 0, 4, 2);
        x.due(1, "seesCell", 0, 0, 0, 2);
        x.due(0, "seesCell", 0, 0, 0, 6);
        x.due(1, "seesCell", 0, 0, 2, 7);
        x.due(0, "seesCell", 0, 0, 5, 4);
    }

    private static void allConditions() {
        Due.sentence("The photo sees the cell if and only if all of the following hold.");
        // All hold at (2, 6); then each of the four alone does not.
        Survey x = new Survey().with("addStrip", 2, 4, 4, 1);
        x.copy().due(1, "seesCell", 0, 0, 2, 6);
        x.copy().with("setHeight", 2, 6, 999).with("setAltitude", 999)
                .with("setFields", 50, 50).due(0, "seesCell", 0, 0, 2, 6);
        x.copy().with("setFields", 1, 2).due(0, "seesCell", 0, 0, 2, 6);
        x.copy().with("setCrab", 100).with("setFields", 3, 1).due(0, "seesCell", 0, 0, 2, 6);
        x.copy().with("setHeight", 2, 5, 501).due(0, "seesCell", 0, 0, 2, 6);
    }

    private static void altitudeAboveTheCell() {
        Due.sentence("1. A is greater than h.");
        int[] altitudes = {100, 500, 999};
        for (int altitude : altitudes) {
            Survey x = new Survey().with("setAltitude", altitude).with("addStrip", 2, 4, 4, 1);
            x.with("setHeight", 2, 4, altitude - 1).due(1, "seesCell", 0, 0, 2, 4);
            x.with("setHeight", 2, 4, altitude).due(0, "seesCell", 0, 0, 2, 4);
            if (altitude < 999) {
                x.with("setHeight", 2, 4, altitude + 1).due(0, "seesCell", 0, 0, 2, 4);
            }
        }
        // At 1000 no height of a cell reaches the altitude.
        new Survey().with("addStrip", 2, 4, 4, 1).with("setHeight", 2, 4, 999)
                .due(1, "seesCell", 0, 0, 2, 4);
    }

    private static void alongTrack() {
        Due.sentence("2. |100 * dc + crab * dr| is at most (A - h) * alongField / 10.");
        Survey x = new Survey().with("setFields", 3, 50).with("addStrip", 2, 4, 4, 1);
        x.due(1, "seesCell", 0, 0, 2, 7).due(0, "seesCell", 0, 0, 2, 8);
        x.due(1, "seesCell", 0, 0, 2, 1).due(0, "seesCell", 0, 0, 2, 0);
        // 300 at height 0; the limit falls to 299 at height 1.
        x.copy().with("setHeight", 2, 7, 1).due(0, "seesCell", 0, 0, 2, 7);
        // |200 + 50 * 2| is 300, |200 + 51 * 2| is 302; with dr below 0 the crab works against dc.
        x.with("setCrab", 50).due(1, "seesCell", 0, 0, 4, 6).due(1, "seesCell", 0, 0, 0, 6);
        x.with("setCrab", 51).due(0, "seesCell", 0, 0, 4, 6).due(1, "seesCell", 0, 0, 0, 6);
        x.due(0, "seesCell", 0, 0, 0, 2).due(1, "seesCell", 0, 0, 4, 2);
        x.with("setCrab", -51).due(1, "seesCell", 0, 0, 4, 6).due(0, "seesCell", 0, 0, 0, 6);
        x.with("setCrab", -50).due(1, "seesCell", 0, 0, 0, 6).due(1, "seesCell", 0, 0, 4, 2);
    }

    private static void acrossTrack() {
        Due.sentence("3. |100 * dr - crab * dc| is at most (A - h) * acrossField / 10.");
        Survey x = new Survey().with("setFields", 50, 2).with("addStrip", 2, 4, 4, 1);
        x.due(1, "seesCell", 0, 0, 4, 4).due(0, "seesCell", 0, 0, 5, 4);
        x.due(1, "seesCell", 0, 0, 0, 4);
        x.copy().with("setHeight", 4, 4, 1).due(0, "seesCell", 0, 0, 4, 4);
        // |100 - 50 * -2| is 200, |100 - 51 * -2| is 202.
        x.with("setCrab", 50).due(1, "seesCell", 0, 0, 3, 2).due(1, "seesCell", 0, 0, 1, 6);
        x.with("setCrab", 51).due(0, "seesCell", 0, 0, 3, 2).due(0, "seesCell", 0, 0, 1, 6);
        x.due(1, "seesCell", 0, 0, 3, 6).due(1, "seesCell", 0, 0, 1, 2);
        x.with("setCrab", -51).due(1, "seesCell", 0, 0, 3, 2).due(0, "seesCell", 0, 0, 3, 6);
    }

    private static void fieldsEverywhere() {
        // Over flat terrain no line is blocked, so conditions 2 and 3 alone decide.
        int[][] settings = {
            {1000, 3, 2, 0}, {1000, 3, 2, 17}, {1000, 2, 3, -100}, {1000, 10, 10, 100},
            {999, 3, 2, 33}, {100, 1, 1, 100}, {100, 50, 50, -1}, {101, 49, 50, 99},
            {5000, 1, 1, -50}, {5000, 50, 50, 100}, {733, 7, 11, 61}, {1234, 5, 6, -72},
        };
        int[][] photos = {{0, 0}, {9, 15}, {4, 7}, {5, 15}};
        for (int[] s : settings) {
            for (int[] p : photos) {
                Survey x = new Survey().with("resize", 10, 16).with("setAltitude", s[0])
                        .with("setFields", s[1], s[2]).with("setCrab", s[3])
                        .with("addStrip", p[0], p[1], p[1], 1);
                for (int r = 0; r < 10; r++) {
                    for (int c = 0; c < 16; c++) {
                        int along = Math.abs(100 * (c - p[1]) + s[3] * (r - p[0]));
                        int across = Math.abs(100 * (r - p[0]) - s[3] * (c - p[1]));
                        boolean sees = 10 * along <= s[0] * s[1] && 10 * across <= s[0] * s[2];
                        x.due(sees ? 1 : 0, "seesCell", 0, 0, r, c);
                    }
                }
            }
        }
    }

    private static void linePassesRoundedCells() {
        Due.sentence("4. The line of sight is free. Let n be the greater of |dr| and |dc|. For"
                + " each k from 1 to n - 1, the line passes the cell in row pr + q(k * dr) and"
                + " column pc + q(k * dc), where q(x) is x divided by n, rounded to the nearest"
                + " integer, and rounded up (toward positive infinity) if x divided by n lies"
                + " exactly between two integers.");
        int[][] photos = {{0, 0}, {0, 15}, {9, 0}, {9, 15}, {4, 7}};
        for (int[] p : photos) {
            for (int r = 0; r < 10; r++) {
                for (int c = 0; c < 16; c++) {
                    blockedByPassedCellsAlone(p[0], p[1], r, c);
                }
            }
        }
    }

    /** A hill of 999 in one cell of the way blocks the view, and in no other cell. */
    private static void blockedByPassedCellsAlone(int pr, int pc, int r, int c) {
        boolean[][] passed = passed(pr, pc, r, c);
        Survey x = wide(pr, pc);
        for (int row = 0; row < 10; row++) {
            for (int column = 0; column < 16; column++) {
                if (row != r || column != c) {
                    x.with("setHeight", row, column, 999);
                    x.due(passed[row][column] ? 0 : 1, "seesCell", 0, 0, r, c);
                    x.with("setHeight", row, column, 0);
                }
            }
        }
    }

    private static boolean[][] passed(int pr, int pc, int r, int c) {
        boolean[][] passed = new boolean[10][16];
        int n = Math.max(Math.abs(r - pr), Math.abs(c - pc));
        for (int k = 1; k <= n - 1; k++) {
            passed[pr + nearest(k * (r - pr), n)][pc + nearest(k * (c - pc), n)] = true;
        }
        return passed;
    }

    /** The integer m from which x / n lies at most half below, and less than half above. */
    private static int nearest(int x, int n) {
        int m = -20;
        while (!(2 * m * n > 2 * x - n && 2 * m * n <= 2 * x + n)) {
            m++;
        }
        return m;
    }

    private static void exactHalvesGoUp() {
        int[][] halves = {
            // photo, target, the cell that is passed, the cell that would be on rounding down
            {2, 4, 3, 6, 3, 5, 2, 5},
            {2, 4, 1, 6, 2, 5, 1, 5},
            {2, 4, 3, 2, 3, 3, 2, 3},
            {2, 4, 1, 2, 2, 3, 1, 3},
            {2, 4, 4, 5, 3, 5, 3, 4},
            {2, 4, 4, 3, 3, 4, 3, 3},
            {2, 4, 0, 5, 1, 5, 1, 4},
            {2, 4, 0, 3, 1, 4, 1, 3},
            // dr = 3 and -3 over 4 columns: 1.5 and -1.5 become 2 and -1
            {4, 4, 7, 8, 6, 6, 5, 6},
            {4, 4, 1, 8, 3, 6, 2, 6},
            // dc = 5 and -5 over 6 rows: 2.5 and -2.5 become 3 and -2
            {2, 8, 8, 13, 5, 11, 5, 10},
            {2, 8, 8, 3, 5, 6, 5, 5},
        };
        for (int[] h : halves) {
            Survey x = wide(h[0], h[1]);
            x.copy().with("setHeight", h[6], h[7], 999).due(1, "seesCell", 0, 0, h[2], h[3]);
            x.copy().with("setHeight", h[4], h[5], 999).due(0, "seesCell", 0, 0, h[2], h[3]);
        }
    }

    private static void nearestBeforeHalves() {
        // One row over three columns: 1/3 becomes 0 and 2/3 becomes 1; and so below 0.
        Survey down = wide(4, 7).with("setHeight", 5, 8, 999).with("setHeight", 4, 9, 999);
        down.copy().due(1, "seesCell", 0, 0, 5, 10);
        down.copy().with("setHeight", 4, 8, 999).due(0, "seesCell", 0, 0, 5, 10);
        down.copy().with("setHeight", 5, 9, 999).due(0, "seesCell", 0, 0, 5, 10);
        Survey up = wide(4, 7).with("setHeight", 3, 8, 999).with("setHeight", 4, 9, 999);
        up.copy().due(1, "seesCell", 0, 0, 3, 10);
        up.copy().with("setHeight", 4, 8, 999).due(0, "seesCell", 0, 0, 3, 10);
        up.copy().with("setHeight", 3, 9, 999).due(0, "seesCell", 0, 0, 3, 10);
    }

    private static void lineBlocked() {
        Due.sentence("The line is blocked if for some k the height of that cell, multiplied by n,"
                + " is greater than A * n + (h - A) * k.");
        Survey x = new Survey().with("addStrip", 2, 0, 0, 1);
        // n = 2, k = 1: 2000 - 1000 = 2 * 500
        x.with("setHeight", 2, 1, 500).due(1, "seesCell", 0, 0, 2, 2);
        x.with("setHeight", 2, 1, 501).due(0, "seesCell", 0, 0, 2, 2);
        // h = 200: 2000 - 800 = 2 * 600
        x.with("setHeight", 2, 2, 200).due(1, "seesCell", 0, 0, 2, 2);
        x.with("setHeight", 2, 1, 600).due(1, "seesCell", 0, 0, 2, 2);
        x.with("setHeight", 2, 1, 601).due(0, "seesCell", 0, 0, 2, 2);
        // n = 3, k = 1 and 2: limits 2000 and 1000, which 3 does not divide
        Survey y = new Survey().with("addStrip", 2, 0, 0, 1);
        y.with("setHeight", 2, 1, 666).due(1, "seesCell", 0, 0, 2, 3);
        y.with("setHeight", 2, 1, 667).due(0, "seesCell", 0, 0, 2, 3);
        y.with("setHeight", 2, 1, 666).with("setHeight", 2, 2, 333).due(1, "seesCell", 0, 0, 2, 3);
        y.with("setHeight", 2, 2, 334).due(0, "seesCell", 0, 0, 2, 3);
        // Neither the cell below the photo (k = 0) nor the cell itself (k = n) blocks.
        Survey z = new Survey().with("setAltitude", 500).with("setFields", 50, 50)
                .with("addStrip", 2, 0, 0, 1).with("setHeight", 2, 0, 999);
        z.due(1, "seesCell", 0, 0, 2, 2).with("setHeight", 2, 2, 499);
        z.due(0, "seesCell", 0, 0, 2, 0).due(0, "seesCell", 0, 0, 2, 2);
        z.with("setHeight", 2, 2, 459).due(1, "seesCell", 0, 0, 2, 2);
    }

    private static void lineBlockedByHeightsAtTheLimit() {
        int[][] airs = {{1000, 0}, {1000, 400}, {1360, 640}, {777, 21}, {5000, 999}};
        for (int[] a : airs) {
            for (int n = 2; n < 16; n++) {
                Survey x = wide(9, 15).with("setAltitude", a[0])
                        .with("setHeight", 9, 15 - n, a[1]);
                for (int k = 1; k < n && inView(a[0] - a[1], n); k++) {
                    limitAt(x, a[0] * n + (a[1] - a[0]) * k, n, k);
                }
            }
        }
    }

    /** Whether condition 2 lets the fields of 50 reach n columns. */
    private static boolean inView(int above, int n) {
        return 100 * n <= above * 5;
    }

    private static void limitAt(Survey x, int line, int n, int k) {
        int most = Math.min(999, line / n);
        x.with("setHeight", 9, 15 - k, most).due(1, "seesCell", 0, 0, 9, 15 - n);
        if (most < 999) {
            x.with("setHeight", 9, 15 - k, most + 1).due(0, "seesCell", 0, 0, 9, 15 - n);
        }
        x.with("setHeight", 9, 15 - k, 0);
    }

    private static void noCellBetween() {
        Due.sentence("If n is 0 or 1, there is no such k, and the line is free.");
        // Hills all around, and one above the altitude below the photo.
        Survey x = new Survey().with("setAltitude", 600).with("setFields", 50, 50)
                .with("addStrip", 2, 4, 4, 1);
        for (int row = 1; row <= 3; row++) {
            for (int column = 3; column <= 5; column++) {
                x.with("setHeight", row, column, row == 2 && column == 4 ? 999 : 400);
            }
        }
        for (int row = 1; row <= 3; row++) {
            for (int column = 3; column <= 5; column++) {
                x.due(row == 2 && column == 4 ? 0 : 1, "seesCell", 0, 0, row, column);
            }
        }
        x.with("setHeight", 2, 4, 599).due(1, "seesCell", 0, 0, 2, 4);
        // The next cells have one k, and hills in the way.
        x.due(0, "seesCell", 0, 0, 2, 6).due(0, "seesCell", 0, 0, 0, 4);
    }

    private static void quotientsRoundedDown() {
        Due.sentence("Quotients in conditions 2 and 3 are rounded down.");
        // 999 * 3 / 10 = 299.7 and 999 * 2 / 10 = 199.8 do not reach 300 and 200.
        Survey x = new Survey().with("addStrip", 2, 4, 4, 1).with("setAltitude", 999);
        x.due(0, "seesCell", 0, 0, 2, 7).due(0, "seesCell", 0, 0, 2, 1);
        x.due(1, "seesCell", 0, 0, 2, 6);
        x.due(0, "seesCell", 0, 0, 4, 4).due(0, "seesCell", 0, 0, 0, 4);
        x.due(1, "seesCell", 0, 0, 3, 4);
        // 1003 * 3 / 10 = 300.9: 300 is seen, 301 is not, in both conditions.
        Survey y = new Survey().with("addStrip", 2, 4, 4, 1).with("setAltitude", 1003)
                .with("setFields", 3, 50).with("setCrab", 1);
        y.due(1, "seesCell", 0, 0, 2, 7).due(0, "seesCell", 0, 0, 3, 7);
        y.due(1, "seesCell", 0, 0, 1, 7);
        Survey z = new Survey().with("addStrip", 2, 4, 4, 1).with("setAltitude", 1003)
                .with("setFields", 50, 3).with("setCrab", 1);
        z.due(1, "seesCell", 0, 0, 5, 4).due(0, "seesCell", 0, 0, 5, 3);
        z.due(1, "seesCell", 0, 0, 5, 5);
    }
}
