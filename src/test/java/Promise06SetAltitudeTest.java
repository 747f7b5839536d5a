/** Promise 6: setAltitude. */
public final class Promise06SetAltitudeTest {
    public static void main(String[] args) {
        sets();
        range();
        answers();
        Due.end();
    }

    private static void sets() {
        Due.sentence("Sets the altitude.");
        Survey x = new Survey().with("addStrip", 2, 4, 4, 1);
        x.with("setAltitude", 1000).due(1, "seesCell", 0, 0, 2, 7);
        x.with("setAltitude", 999).due(0, "seesCell", 0, 0, 2, 7);
        x.with("setAltitude", 100).due(1, "footprintSize", 0, 0);
        x.with("setAltitude", 5000).due(60, "footprintSize", 0, 0);
    }

    private static void range() {
        Due.sentence("`altitude`: from 100 to 5000");
        new Survey().due(1000, "setAltitude", 100).due(100, "setAltitude", 5000)
                .due(5000, "setAltitude", 101).due(101, "setAltitude", 4999)
                .due(4999, "setAltitude", 5000);
        Survey x = new Survey().with("setAltitude", 777).with("addStrip", 2, 4, 8, 2);
        for (int altitude : Ints.outside(100, 5000)) {
            x.refused(-4, "setAltitude", altitude);
        }
        x.refused(-4, "setAltitude", 0).refused(-4, "setAltitude", -1);
    }

    private static void answers() {
        Due.sentence("Returns the previous altitude; BAD_VALUE.");
        new Survey().due(1000, "setAltitude", 1000).due(1000, "setAltitude", 1234)
                .due(-4, "setAltitude", 99).due(-4, "setAltitude", 5001)
                .due(1234, "setAltitude", 1234);
    }
}
