/** Promise 11: removeStrip. */
public final class Promise11RemoveStripTest {
    public static void main(String[] args) {
        removes();
        greaterNumbersFall();
        numbers();
        answers();
        Due.end();
    }

    private static final int[][] STRIPS = {
        {0, 0, 9, 1}, {1, 1, 8, 2}, {2, 2, 7, 3}, {3, 3, 9, 4},
        {4, 4, 6, 1}, {5, 5, 9, 2}, {0, 6, 7, 1}, {1, 7, 9, 2},
    };

    private static Survey with(int strips) {
        Survey x = new Survey();
        for (int strip = 0; strip < strips; strip++) {
            int[] s = STRIPS[strip];
            x.with("addStrip", s[0], s[1], s[2], s[3]);
        }
        return x;
    }

    private static void dueStrip(Survey x, int strip, int[] s) {
        Due.due("the row of strip " + strip, x.rowOf(strip), s[0]);
        x.due((s[2] - s[1]) / s[3] + 1, "photoCount", strip);
        x.due(s[1], "photoColumn", strip, 0);
        x.due(s[1] + s[3], "photoColumn", strip, 1);
        x.due((s[2] - s[1]) * 10, "stripTime", strip, true);
    }

    private static void removes() {
        Due.sentence("Removes a strip.");
        Survey x = with(1).due(0, "removeStrip", 0);
        x.due(0, "stripCount").due(-2, "photoCount", 0).due(60, "gapCount", 1);
        x.due(0, "addStrip", 2, 3, 4, 1).due(2, "photoCount", 0);
    }

    private static void greaterNumbersFall() {
        Due.sentence("The strips with greater numbers get numbers lower by 1.");
        for (int strips = 1; strips <= 8; strips++) {
            for (int removed = 0; removed < strips; removed++) {
                Survey x = with(strips).due(strips - 1, "removeStrip", removed);
                for (int strip = 0; strip < strips - 1; strip++) {
                    dueStrip(x, strip, STRIPS[strip < removed ? strip : strip + 1]);
                }
                x.due(-2, "photoCount", strips - 1);
            }
        }
    }

    private static void numbers() {
        Due.sentence("`strip`: number of the strip");
        for (int strips = 0; strips <= 8; strips++) {
            for (int strip : Ints.outside(0, strips - 1)) {
                with(strips).refused(-2, "removeStrip", strip);
            }
        }
    }

    private static void answers() {
        Due.sentence("Returns the number of strips that are left; NO_SUCH_STRIP.");
        Survey x = with(8);
        for (int left = 7; left >= 0; left--) {
            x.due(left, "removeStrip", left / 2).due(left, "stripCount");
        }
        x.refused(-2, "removeStrip", 0);
    }
}
