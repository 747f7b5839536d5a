/** Promise 27: routeTime, and which route is the fastest. */
public final class Promise27RouteTimeTest {
    public static void main(String[] args) {
        finds();
        everyStripOnce();
        endsWithTheLastStrip();
        sumOfTimes();
        transfers();
        transfersRoundedDown();
        lowerStripFirst();
        eastboundFirst();
        routesByHand();
        rows();
        columns();
        answers();
        noStrips();
        Due.end();
    }

    private static Survey two() {
        return new Survey().with("addStrip", 1, 0, 9, 3).with("addStrip", 4, 0, 9, 3);
    }

    private static void finds() {
        Due.sentence("Finds the fastest route.");
        two().with("setSpeed", 100, 20, 50).unchangedBy(327, "routeTime", 0, 0);
        // The nearest strip first is slower here: (2, 3) is next to strip 1, but the way back
        // from there is long.
        Survey x = new Survey().with("addStrip", 2, 0, 0, 1).with("addStrip", 2, 4, 4, 1)
                .with("addStrip", 2, 9, 9, 1);
        x.with("setSpeed", 100, 0, 0).due(3 * 10 + 4 * 10 + 5 * 10, "routeTime", 2, 3);
        Routes.due(x, 2, 3, 120, 0, 2, 4);
    }

    private static void everyStripOnce() {
        Due.sentence("A route starts at a base and flies every strip exactly once, each either"
                + " eastbound or westbound; it ends with the last strip.");
        Survey x = new Survey().with("resize", 8, 11);
        for (int row = 7; row >= 0; row--) {
            x.with("addStrip", row, 0, 10, 1);
        }
        // To and fro over the rows: 8 turns, 8 flights of 100, 7 transfers of 10.
        Routes.due(x, 0, 0, 1350, 14, 13, 10, 9, 6, 5, 2, 1);
        Routes.due(x, 7, 10, 1350, 1, 2, 5, 6, 9, 10, 13, 14);
        // Equal strips are flown each.
        Survey y = new Survey();
        for (int strip = 0; strip < 8; strip++) {
            y.with("addStrip", 2, 4, 4, 1);
        }
        Routes.due(y, 2, 4, 480, 0, 2, 4, 6, 8, 10, 12, 14);
    }

    private static void endsWithTheLastStrip() {
        // There is no way back to the base: 5 cells and a turn, then 5 columns.
        Survey x = new Survey().with("addStrip", 3, 2, 7, 1);
        Routes.due(x, 0, 0, 50 + 60 + 50, 0);
        Routes.due(x, 0, 9, 50 + 60 + 50, 1);
        Routes.due(x, 3, 2, 60 + 50, 0);
        Routes.due(x, 3, 7, 60 + 50, 1);
    }

    private static void sumOfTimes() {
        Due.sentence("Its time is the sum of the strip times and of the transfer times.");
        // Strips of 9000 / 90 = 100 eastbound; they take 900 westbound, so both go eastbound.
        Survey x = two().with("setSpeed", 50, 40, 0);
        Routes.due(x, 0, 0, 20 + 100 + 240 + 100, 0, 2);
        Survey y = two().with("setSpeed", 50, -40, 0);
        Routes.due(y, 0, 0, 200 + 100 + 240 + 100, 1, 3);
        // Each strip time is rounded by itself: 9000 / 110 = 81.8
        Survey z = two().with("setSpeed", 110, 0, 0);
        Routes.due(z, 1, 0, 81 + 27 + 81, 0, 3);
    }

    private static void transfers() {
        Due.sentence("The transfer to a strip leads from the base, or from the end of the strip"
                + " before, to the column where the strip is entered; it takes (row difference +"
                + " column difference, both without sign) * 1000 divided by airspeed, rounded"
                + " down, plus the turn time; this holds for the first transfer from the base,"
                + " too.");
        // Strip 1 is entered at column 9, where strip 0 ends.
        Routes.due(two(), 0, 0, 10 + 60 + 90 + 30 + 60 + 90, 0, 3);
        Routes.due(two(), 5, 9, 10 + 60 + 90 + 30 + 60 + 90, 3, 0);
        Routes.due(two(), 5, 0, 10 + 60 + 90 + 30 + 60 + 90, 2, 1);
        // The wind has no part in a transfer, and a transfer over no cell still takes a turn.
        Survey x = new Survey().with("addStrip", 3, 5, 5, 1).with("setSpeed", 100, 40, 33);
        Routes.due(x, 3, 5, 33, 0);
        Routes.due(x, 3, 1, 40 + 33, 0);
        Routes.due(x, 3, 9, 40 + 33, 0);
        Routes.due(x, 0, 5, 30 + 33, 0);
        Routes.due(x, 5, 5, 20 + 33, 0);
        // The end of a strip is its last column, and westbound its entry is, even without a photo
        // there.
        Survey y = new Survey().with("addStrip", 1, 0, 9, 16).with("addStrip", 1, 9, 9, 1);
        Routes.due(y, 1, 0, 60 + 90 + 60, 0, 2);
        Routes.due(new Survey().with("addStrip", 1, 0, 9, 16), 1, 9, 60 + 90, 1);
        Routes.due(new Survey().with("addStrip", 1, 0, 9, 4), 1, 9, 60 + 90, 1);
        for (int turnTime : new int[] {0, 1, 500}) {
            two().with("setSpeed", 100, 0, turnTime).due(10 + 90 + 30 + 90 + 2 * turnTime,
                    "routeTime", 0, 0);
        }
    }

    private static void transfersRoundedDown() {
        Survey x = new Survey().with("addStrip", 1, 1, 1, 1).with("setSpeed", 300, 0, 7);
        // 2 * 1000 / 300 = 6.66, not twice 3.33.
        Routes.due(x, 0, 0, 13, 0);
        Routes.due(x, 1, 0, 10, 0);
        Routes.due(x, 1, 1, 7, 0);
        Routes.due(x, 1, 2, 10, 0);
        Routes.due(x, 2, 2, 13, 0);
        // 17 * 1000 / 52 = 326.92
        Survey y = new Survey().with("resize", 3, 16).with("addStrip", 2, 15, 15, 1)
                .with("setSpeed", 52, 0, 0);
        Routes.due(y, 0, 0, 326, 0);
        // Each transfer is rounded by itself: 3.33 and 3.33 are 3 and 3.
        Survey z = new Survey().with("addStrip", 1, 1, 1, 1).with("addStrip", 2, 1, 1, 1)
                .with("setSpeed", 300, 0, 0);
        Routes.due(z, 0, 1, 6, 0, 2);
    }

    private static void lowerStripFirst() {
        Due.sentence("If several routes are fastest, the first difference decides: the route that"
                + " flies the strip with the lower number there;");
        // From the middle all first steps are equally fast; the lower strip goes first, even if it
        // lies below the other one.
        Survey x = new Survey().with("resize", 5, 9).with("addStrip", 4, 2, 6, 1)
                .with("addStrip", 0, 2, 6, 1);
        Routes.due(x, 2, 4, 280, 0, 3);
        Routes.due(x, 0, 4, 260, 2, 1);
        // Strip 0 westbound before strip 1, or strip 1 eastbound before strip 0: the lower strip
        // decides, not the direction.
        Survey y = new Survey().with("resize", 5, 9).with("addStrip", 0, 1, 5, 1)
                .with("addStrip", 4, 3, 7, 1);
        Routes.due(y, 2, 4, 290, 1, 2);
        // The first steps are the same; the second ones decide.
        Survey z = new Survey().with("addStrip", 0, 0, 0, 1).with("addStrip", 0, 5, 5, 1)
                .with("addStrip", 0, 5, 5, 1);
        Routes.due(z, 0, 0, 60 + 50 + 60 + 60, 0, 2, 4);
        // Only a difference of the strip that is flown there counts, not of those behind it:
        // 1 before 2 and 0 is as fast as 2 before 1 and 0.
        Survey w = new Survey().with("addStrip", 0, 9, 9, 1).with("addStrip", 0, 1, 1, 1)
                .with("addStrip", 0, 1, 1, 1);
        Routes.due(w, 0, 0, 10 + 80 + 180, 2, 4, 0);
    }

    private static void eastboundFirst() {
        Due.sentence("or, for the same strip, the one that flies it eastbound.");
        // A strip of one column, and a base above the middle of a strip.
        Routes.due(new Survey().with("addStrip", 3, 5, 5, 1), 0, 0, 140, 0);
        Routes.due(new Survey().with("addStrip", 3, 2, 6, 1), 3, 4, 120, 0);
        // One column to the right westbound is faster.
        Routes.due(new Survey().with("addStrip", 3, 2, 6, 1), 3, 5, 110, 1);
        // The tie is in the last step, behind a westbound one.
        Survey x = new Survey().with("addStrip", 1, 0, 9, 1).with("addStrip", 2, 0, 0, 1);
        Routes.due(x, 0, 9, 10 + 60 + 90 + 10 + 60, 1, 2);
        Survey full = new Survey();
        for (int strip = 0; strip < 8; strip++) {
            full.with("addStrip", 0, 3, 3, 1);
        }
        Routes.due(full, 0, 3, 480, 0, 2, 4, 6, 8, 10, 12, 14);
    }

    private static void routesByHand() {
        int[][][] surveys = {
            {{0, 0, 9}, {5, 0, 9}, {2, 3, 3}, {3, 3, 3}},
            {{0, 0, 4}, {0, 5, 9}, {5, 0, 4}, {5, 5, 9}},
            {{2, 2, 6}, {2, 2, 6}, {3, 2, 6}, {1, 2, 6}},
            {{4, 1, 8}, {0, 0, 2}, {3, 7, 9}, {1, 4, 5}, {5, 0, 0}},
            {{1, 0, 9}, {2, 0, 9}, {3, 0, 9}, {4, 0, 9}, {5, 0, 9}},
        };
        int[][] speeds = {{100, 0, 60}, {50, 40, 0}, {50, -40, 7}, {300, 13, 500}, {170, -1, 1}};
        for (int[][] strips : surveys) {
            for (int[] speed : speeds) {
                for (int base = 0; base < 60; base += 7) {
                    Routes.dueByHand(strips, speed[0], speed[1], speed[2], base / 10, base % 10);
                }
            }
        }
    }

    private static void rows() {
        Due.sentence("`baseRow`: row of the base");
        two().unchangedBy(340, "routeTime", 0, 0).unchangedBy(340, "routeTime", 5, 0);
        for (int row : Ints.outside(0, 5)) {
            two().refused(-1, "routeTime", row, 0);
        }
    }

    private static void columns() {
        Due.sentence("`baseColumn`: column of the base");
        two().unchangedBy(340, "routeTime", 0, 0).unchangedBy(340, "routeTime", 0, 9);
        for (int column : Ints.outside(0, 9)) {
            two().refused(-1, "routeTime", 0, column);
        }
    }

    private static void answers() {
        Due.sentence("Returns the time of the fastest route, 0 if there are no strips;"
                + " OUTSIDE_TERRAIN.");
        two().refused(-1, "routeTime", 6, 10).refused(-1, "routeTime", -1, -1);
        // The longest routes: 8 strips against the wind at the lowest speed.
        Survey x = new Survey().with("resize", 10, 16).with("setSpeed", 50, 0, 500);
        for (int strip = 0; strip < 8; strip++) {
            x.with("addStrip", strip + 2, 0, 15, 1);
        }
        x.due(8 * (300 + 500) + 7 * 20 + 2 * 20, "routeTime", 0, 0);
    }

    private static void noStrips() {
        // A base outside is an error even then: nothing in the document makes an exception.
        Survey x = new Survey();
        x.unchangedBy(0, "routeTime", 0, 0).unchangedBy(0, "routeTime", 5, 9);
        x.refused(-1, "routeTime", 6, 0).refused(-1, "routeTime", 0, 10);
        x.refused(-1, "routeTime", -1, 0).refused(-1, "routeTime", 0, -1);
        two().with("removeStrip", 0).with("removeStrip", 0).due(0, "routeTime", 3, 3);
    }
}
