/** Promise 9: setSpeed. */
public final class Promise09SetSpeedTest {
    public static void main(String[] args) {
        sets();
        airspeeds();
        tailwinds();
        turnTimes();
        answers();
        Due.end();
    }

    private static Survey flying() {
        return new Survey().with("setSpeed", 120, -15, 70).with("addStrip", 2, 0, 9, 2);
    }

    private static void sets() {
        Due.sentence("Sets airspeed, tailwind and turn time.");
        Survey x = new Survey().with("addStrip", 2, 0, 9, 2).with("setSpeed", 200, 25, 33);
        // 9000 / 225, 9000 / 175; and 2 * 1000 / 200 + 33 before the 40 of the strip
        x.due(40, "stripTime", 0, true).due(51, "stripTime", 0, false).due(83, "routeTime", 0, 0);
    }

    private static void airspeeds() {
        Due.sentence("`airspeed`: from 50 to 300");
        Survey x = flying();
        x.copy().due(1, "setSpeed", 50, -15, 70).due(9000 / 35, "stripTime", 0, true);
        x.copy().due(1, "setSpeed", 300, -15, 70).due(9000 / 285, "stripTime", 0, true);
        for (int airspeed : Ints.outside(50, 300)) {
            x.refused(-4, "setSpeed", airspeed, 1, 2);
        }
        x.refused(-4, "setSpeed", 0, 0, 0);
    }

    private static void tailwinds() {
        Due.sentence("`tailwind`: the wind toward greater columns, from -40 to 40");
        Survey x = flying();
        x.copy().due(1, "setSpeed", 120, -40, 70).due(9000 / 80, "stripTime", 0, true)
                .due(9000 / 160, "stripTime", 0, false);
        x.copy().due(1, "setSpeed", 120, 40, 70).due(9000 / 160, "stripTime", 0, true)
                .due(9000 / 80, "stripTime", 0, false);
        for (int tailwind : Ints.outside(-40, 40)) {
            x.refused(-4, "setSpeed", 100, tailwind, 2);
        }
    }

    private static void turnTimes() {
        Due.sentence("`turnTime`: from 0 to 500");
        Survey x = flying();
        int flight = 9000 / 105;
        x.copy().due(1, "setSpeed", 120, -15, 0).due(flight, "routeTime", 2, 0);
        x.copy().due(1, "setSpeed", 120, -15, 500).due(500 + flight, "routeTime", 2, 0);
        for (int turnTime : Ints.outside(0, 500)) {
            x.refused(-4, "setSpeed", 100, 1, turnTime);
        }
    }

    private static void answers() {
        Due.sentence("Returns 1 if at least one of them changed, otherwise 0; BAD_VALUE.");
        Survey x = flying();
        x.copy().due(0, "setSpeed", 120, -15, 70);
        x.copy().due(1, "setSpeed", 121, -15, 70).due(0, "setSpeed", 121, -15, 70);
        x.copy().due(1, "setSpeed", 120, -14, 70).due(0, "setSpeed", 120, -14, 70);
        x.copy().due(1, "setSpeed", 120, -15, 71).due(0, "setSpeed", 120, -15, 71);
        x.copy().due(1, "setSpeed", 50, 40, 0).due(0, "setSpeed", 50, 40, 0);
        x.refused(-4, "setSpeed", 49, 41, 501).refused(-4, "setSpeed", 301, -41, -1);
        int least = Integer.MIN_VALUE;
        x.refused(-4, "setSpeed", least, least, least);
    }
}
