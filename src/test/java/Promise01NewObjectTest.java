/** Promise 1: a new object. */
public final class Promise01NewObjectTest {
    public static void main(String[] args) {
        settings();
        settingsAtWork();
        objectsShareNothing();
        Due.end();
    }

    private static void settings() {
        Due.sentence("Creates a survey with altitude 1000, along-track field 3, across-track field"
                + " 2, crab 0, airspeed 100, tailwind 0 and turn time 60.");
        new Survey().due(1000, "setAltitude", 1000);
        new Survey().due(0, "setFields", 3, 2);
        new Survey().due(0, "setCrab", 0);
        new Survey().due(0, "setSpeed", 100, 0, 60);
        new Survey().due(0, "stripCount");
    }

    private static void settingsAtWork() {
        Survey x = new Survey().with("addStrip", 2, 4, 8, 1);
        for (int row = 0; row < 6; row++) {
            for (int column = 0; column < 10; column++) {
                boolean near = Math.abs(row - 2) <= 2 && Math.abs(column - 4) <= 3;
                x.due(near ? 1 : 0, "seesCell", 0, 0, row, column);
            }
        }
        x.due(40, "stripTime", 0, true).due(40, "stripTime", 0, false);
        x.due(110, "routeTime", 1, 4);
    }

    private static void objectsShareNothing() {
        Survey other = new Survey();
        new Survey().with("resize", 10, 16).with("setHeight", 1, 1, 5).with("setAltitude", 500)
                .with("setFields", 9, 9).with("setCrab", 9).with("setSpeed", 99, 9, 9)
                .with("addStrip", 0, 0, 9, 1);
        other.due(-1, "height", 6, 0).due(0, "height", 1, 1).due(0, "stripCount")
                .due(1000, "setAltitude", 1000).due(0, "setFields", 3, 2).due(0, "setCrab", 0)
                .due(0, "setSpeed", 100, 0, 60);
    }
}
