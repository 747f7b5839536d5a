/** Promise 12: stripCount. */
public final class Promise12StripCountTest {
    public static void main(String[] args) {
        counts();
        Due.end();
    }

    private static void counts() {
        Due.sentence("Returns the number of strips.");
        Survey x = new Survey().unchangedBy(0, "stripCount");
        for (int strip = 0; strip < 8; strip++) {
            x.with("addStrip", 1, 0, 9, 3).unchangedBy(strip + 1, "stripCount");
        }
        x.due(-5, "addStrip", 1, 0, 9, 3).due(8, "stripCount");
        x.due(-2, "removeStrip", 8).due(8, "stripCount");
        x.due(7, "removeStrip", 0).due(7, "stripCount");
        x.due(2, "applyPlan", 2).due(2, "stripCount");
        x.due(-4, "applyPlan", 0).due(2, "stripCount");
        x.due(-4, "resize", 2, 4).due(2, "stripCount");
        x.due(12, "resize", 3, 4).due(0, "stripCount");
    }
}
