/** Promise 13: photoCount. */
public final class Promise13PhotoCountTest {
    public static void main(String[] args) {
        counts();
        numbers();
        answers();
        Due.end();
    }

    private static Survey five() {
        return new Survey().with("addStrip", 0, 0, 9, 1).with("addStrip", 1, 0, 9, 3)
                .with("addStrip", 2, 0, 8, 3).with("addStrip", 3, 2, 5, 16)
                .with("addStrip", 4, 9, 9, 1);
    }

    private static void counts() {
        Due.sentence("Returns the number of photos of a strip.");
        int[] due = {10, 4, 3, 1, 1};
        Survey x = five();
        for (int strip = 0; strip < due.length; strip++) {
            x.unchangedBy(due[strip], "photoCount", strip);
        }
        new Survey().with("resize", 3, 16).with("addStrip", 0, 0, 15, 1).with("addStrip", 0, 0, 15, 15)
                .with("addStrip", 0, 0, 15, 16).due(16, "photoCount", 0).due(2, "photoCount", 1)
                .due(1, "photoCount", 2);
    }

    private static void numbers() {
        Due.sentence("`strip`: number of the strip");
        for (int strip : Ints.outside(0, 4)) {
            five().refused(-2, "photoCount", strip);
        }
    }

    private static void answers() {
        Due.sentence("Returns the number of photos; NO_SUCH_STRIP.");
        Survey x = new Survey().refused(-2, "photoCount", 0);
        x.with("addStrip", 0, 3, 7, 2).due(3, "photoCount", 0).refused(-2, "photoCount", 1);
        x.with("removeStrip", 0).refused(-2, "photoCount", 0);
    }
}
