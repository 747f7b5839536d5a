/** Promise 26: stripTime. */
public final class Promise26StripTimeTest {
    public static void main(String[] args) {
        time();
        lastColumnWithoutPhoto();
        groundSpeed();
        strips();
        directions();
        answers();
        Due.end();
    }

    private static Survey three() {
        return new Survey().with("addStrip", 0, 2, 9, 1).with("addStrip", 1, 4, 4, 1)
                .with("addStrip", 5, 0, 9, 9);
    }

    private static void time() {
        Due.sentence("Computes the time to fly a strip: (last - first) * 1000 divided by the ground"
                + " speed, rounded down.");
        three().unchangedBy(70, "stripTime", 0, true).unchangedBy(70, "stripTime", 0, false)
                .unchangedBy(90, "stripTime", 2, true);
        // A strip of one column takes no time.
        three().unchangedBy(0, "stripTime", 1, true).unchangedBy(0, "stripTime", 1, false);
        // 7000 / 90 = 77.77, 7000 / 10 = 700; 7000 / 101 = 69.3, 7000 / 99 = 70.7
        three().with("setSpeed", 50, 40, 0).due(77, "stripTime", 0, true)
                .due(700, "stripTime", 0, false);
        three().with("setSpeed", 101, 0, 0).due(69, "stripTime", 0, true);
        three().with("setSpeed", 99, 0, 0).due(70, "stripTime", 0, true);
        for (int airspeed : Ints.range(50, 300)) {
            int due = three().with("setSpeed", airspeed, 7, 0).ask("stripTime", 0, true);
            Due.due("7000 / " + (airspeed + 7) + " rounded down: " + due,
                    due * (airspeed + 7) <= 7000 && (due + 1) * (airspeed + 7) > 7000);
        }
        // The longest time and the shortest of a strip with two columns.
        Survey x = new Survey().with("resize", 3, 16).with("addStrip", 0, 0, 15, 1)
                .with("addStrip", 0, 3, 4, 1);
        x.with("setSpeed", 50, -40, 500).due(1500, "stripTime", 0, true);
        x.with("setSpeed", 300, 40, 500).due(2, "stripTime", 1, true).due(3, "stripTime", 1, false);
    }

    private static void lastColumnWithoutPhoto() {
        Due.sentence("A strip is always flown between its first and its last column, even if no"
                + " photo is taken at the last column.");
        Survey x = new Survey().with("addStrip", 0, 2, 9, 16).with("addStrip", 0, 0, 9, 4)
                .with("addStrip", 0, 0, 8, 4);
        x.due(1, "photoCount", 0).due(70, "stripTime", 0, true).due(70, "stripTime", 0, false);
        x.due(8, "photoColumn", 1, 2).due(90, "stripTime", 1, true).due(80, "stripTime", 2, true);
    }

    private static void groundSpeed() {
        Due.sentence("The ground speed is airspeed + tailwind eastbound (from the first column to"
                + " the last one) and airspeed - tailwind westbound (from the last column to the"
                + " first one).");
        three().with("setSpeed", 60, 40, 0).due(70, "stripTime", 0, true)
                .due(350, "stripTime", 0, false);
        three().with("setSpeed", 60, -40, 0).due(350, "stripTime", 0, true)
                .due(70, "stripTime", 0, false);
        three().with("setSpeed", 50, -40, 0).due(700, "stripTime", 0, true)
                .due(77, "stripTime", 0, false);
        // The turn time is no part of it.
        three().with("setSpeed", 100, 0, 500).due(70, "stripTime", 0, true);
    }

    private static void strips() {
        Due.sentence("`strip`: number of the strip");
        for (int strip : Ints.outside(0, 2)) {
            three().refused(-2, "stripTime", strip, true);
            three().refused(-2, "stripTime", strip, false);
        }
    }

    private static void directions() {
        Due.sentence("`eastbound`: whether the strip is flown eastbound");
        three().with("setSpeed", 100, 20, 50).unchangedBy(75, "stripTime", 2, true)
                .unchangedBy(112, "stripTime", 2, false);
    }

    private static void answers() {
        Due.sentence("Returns the time; NO_SUCH_STRIP.");
        new Survey().refused(-2, "stripTime", 0, true).refused(-2, "stripTime", 0, false);
        three().with("removeStrip", 0).due(0, "stripTime", 0, true).due(90, "stripTime", 1, true)
                .refused(-2, "stripTime", 2, true);
    }
}
