/** Promise 4: raiseHill. */
public final class Promise04RaiseHillTest {
    public static void main(String[] args) {
        raises();
        distance();
        rise();
        riseRoundedDown();
        heightsAbove999();
        rows();
        columns();
        radii();
        heights();
        answers();
        cellsThatDoNotChange();
        Due.end();
    }

    private static Survey hilly() {
        return new Survey().with("raiseHill", 3, 3, 3, 50).with("addStrip", 1, 0, 9, 2);
    }

    private static void raises() {
        Due.sentence("Raises a hill.");
        Survey x = new Survey().due(1, "raiseHill", 2, 5, 0, 300).due(300, "height", 2, 5);
        x.due(1, "raiseHill", 2, 5, 0, 100).due(400, "height", 2, 5);
        x.due(9, "raiseHill", 2, 5, 1, 20).due(420, "height", 2, 5).due(10, "height", 2, 6);
    }

    private static void distance() {
        Due.sentence("The distance of a cell from the top is the greater of the row difference and"
                + " the column difference, both without sign.");
        int[][] tops = {{4, 7}, {0, 0}, {9, 15}, {0, 15}, {9, 0}, {5, 1}};
        for (int[] top : tops) {
            for (int radius : Ints.range(0, 5)) {
                Survey x = new Survey().with("resize", 10, 16);
                x.with("raiseHill", top[0], top[1], radius, 60 * (radius + 1));
                for (int row = 0; row < 10; row++) {
                    for (int column = 0; column < 16; column++) {
                        int d = Math.max(Math.abs(row - top[0]), Math.abs(column - top[1]));
                        int due = d <= radius ? 60 * (radius + 1 - d) : 0;
                        x.due(due, "height", row, column);
                    }
                }
            }
        }
    }

    private static void rise() {
        Due.sentence("Each cell at a distance d of at most radius rises by"
                + " height * (radius + 1 - d) / (radius + 1), rounded down (this is the rise of the"
                + " cell; a height that would be above 999 after the rise is replaced by 999).");
        // At distance 5 the hill of radius 5 still rises by a sixth; one farther it does not.
        Survey x = new Survey().with("raiseHill", 0, 0, 5, 600);
        int[] due = {600, 500, 400, 300, 200, 100, 0, 0, 0, 0};
        for (int column = 0; column < 10; column++) {
            x.due(due[column], "height", 0, column);
        }
    }

    private static void riseRoundedDown() {
        for (int radius : Ints.range(0, 5)) {
            for (int height : Ints.range(1, 999)) {
                Survey x = new Survey().with("raiseHill", 0, 0, radius, height);
                for (int d = 0; d <= radius; d++) {
                    x.due(parts(height * (radius + 1 - d), radius + 1), "height", 0, d);
                }
                x.due(0, "height", 0, radius + 1);
            }
        }
    }

    /** How often the divisor can be taken away. */
    private static int parts(int dividend, int divisor) {
        int parts = 0;
        for (int rest = dividend; rest >= divisor; rest -= divisor) {
            parts++;
        }
        return parts;
    }

    private static void heightsAbove999() {
        Survey x = new Survey().with("setHeight", 1, 1, 990);
        x.copy().due(1, "raiseHill", 1, 1, 0, 8).due(998, "height", 1, 1);
        x.copy().due(1, "raiseHill", 1, 1, 0, 9).due(999, "height", 1, 1);
        x.copy().due(1, "raiseHill", 1, 1, 0, 10).due(999, "height", 1, 1);
        x.copy().due(1, "raiseHill", 1, 1, 0, 999).due(999, "height", 1, 1);
        // Only the cell that would be too high is cut off.
        x.due(9, "raiseHill", 1, 1, 1, 100).due(999, "height", 1, 1).due(50, "height", 1, 2);
        // The rise is rounded before it is added: 998 + 1.5 is 999, 997 + 1.5 is 998.
        new Survey().with("setHeight", 0, 1, 998).with("setHeight", 1, 0, 997)
                .due(9, "raiseHill", 1, 1, 1, 3).due(999, "height", 0, 1).due(998, "height", 1, 0);
    }

    private static void rows() {
        Due.sentence("`row`: row of the top");
        Survey x = hilly();
        x.copy().due(1, "raiseHill", 0, 9, 0, 7).due(1, "raiseHill", 5, 9, 0, 8)
                .due(7, "height", 0, 9).due(8, "height", 5, 9);
        for (int row : Ints.outside(0, 5)) {
            x.refused(-1, "raiseHill", row, 3, 5, 500);
        }
    }

    private static void columns() {
        Due.sentence("`column`: column of the top");
        Survey x = hilly();
        x.copy().due(1, "raiseHill", 5, 0, 0, 7).due(1, "raiseHill", 5, 9, 0, 8)
                .due(12 + 7, "height", 5, 0).due(8, "height", 5, 9);
        for (int column : Ints.outside(0, 9)) {
            x.refused(-1, "raiseHill", 3, column, 5, 500);
        }
    }

    private static void radii() {
        Due.sentence("`radius`: from 0 to 5");
        Survey x = hilly();
        x.copy().due(1, "raiseHill", 5, 9, 0, 999);
        x.copy().due(36, "raiseHill", 5, 9, 5, 999);
        for (int radius : Ints.outside(0, 5)) {
            x.refused(-4, "raiseHill", 3, 3, radius, 500);
        }
    }

    private static void heights() {
        Due.sentence("`height`: from 1 to 999");
        Survey x = hilly();
        x.copy().due(1, "raiseHill", 5, 9, 0, 1).due(1, "height", 5, 9);
        x.copy().due(1, "raiseHill", 5, 9, 0, 999).due(999, "height", 5, 9);
        for (int height : Ints.outside(1, 999)) {
            x.refused(-4, "raiseHill", 3, 3, 2, height);
        }
    }

    private static void answers() {
        Due.sentence("Returns the number of cells whose height changed; OUTSIDE_TERRAIN;"
                + " BAD_VALUE.");
        Survey x = hilly();
        // Outside and a wrong radius or height: the place is looked at first.
        x.refused(-1, "raiseHill", 6, 0, 6, 1);
        x.refused(-1, "raiseHill", 0, 10, 0, 0);
        x.refused(-1, "raiseHill", -1, -1, -1, -1);
        x.refused(-4, "raiseHill", 0, 0, 6, 0);
        // The part of a hill beyond the terrain is not counted.
        x.copy().due(4, "raiseHill", 0, 0, 1, 10).due(4, "raiseHill", 0, 9, 1, 10)
                .due(4, "raiseHill", 5, 0, 1, 10).due(4, "raiseHill", 5, 9, 1, 10)
                .due(6, "raiseHill", 0, 4, 1, 10).due(9, "raiseHill", 3, 4, 1, 10)
                .due(54, "raiseHill", 3, 3, 5, 999);
    }

    private static void cellsThatDoNotChange() {
        // A rise of 0 changes nothing: of radius 5 and height 1 the top alone rises.
        new Survey().due(1, "raiseHill", 3, 3, 5, 1).due(1, "height", 3, 3).due(0, "height", 3, 4);
        // Of height 2 it is 10/6, 8/6 and 6/6 as far as distance 3, and 4/6 behind it.
        new Survey().due(42, "raiseHill", 3, 3, 5, 2).due(2, "height", 3, 3)
                .due(1, "height", 3, 4).due(1, "height", 0, 6).due(0, "height", 3, 7);
        // A cell at 999 stays, a cell at 998 changes.
        Survey x = new Survey().with("setHeight", 3, 3, 999);
        x.copy().due(0, "raiseHill", 3, 3, 0, 999).due(999, "height", 3, 3);
        x.copy().due(8, "raiseHill", 3, 3, 1, 2);
        x.with("setHeight", 3, 3, 998).due(1, "raiseHill", 3, 3, 0, 1).due(999, "height", 3, 3);
    }
}
