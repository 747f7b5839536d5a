/** 'Description', the paragraph on terrain. */
public final class DescriptionTerrainTest {
    public static void main(String[] args) {
        numberedFromZero();
        newTerrain();
        heights();
        rowMajorOrder();
        Due.end();
    }

    private static void numberedFromZero() {
        Due.sentence("Terrain. The terrain is a grid of cells with rows numbered from 0 and"
                + " columns numbered from 0.");
        new Survey().due(0, "height", 0, 0)
                .refused(-1, "height", -1, 0)
                .refused(-1, "height", 0, -1);
        new Survey().with("resize", 3, 4).due(0, "height", 2, 3)
                .refused(-1, "height", 3, 3)
                .refused(-1, "height", 2, 4);
    }

    private static void newTerrain() {
        Due.sentence("A new survey has 6 rows and 10 columns.");
        new Survey().due(0, "height", 5, 9)
                .refused(-1, "height", 6, 9)
                .refused(-1, "height", 5, 10)
                .due(60, "gapCount", 1);
    }

    private static void heights() {
        Due.sentence("Each cell has a height from 0 to 999, initially 0.");
        Survey x = new Survey();
        for (int row = 0; row < 6; row++) {
            for (int column = 0; column < 10; column++) {
                x.due(0, "height", row, column);
                x.due(0, "setHeight", row, column, 999 - 10 * row - column);
            }
        }
        for (int row = 0; row < 6; row++) {
            for (int column = 0; column < 10; column++) {
                x.due(999 - 10 * row - column, "setHeight", row, column, 0);
                x.due(0, "height", row, column);
            }
        }
        new Survey().refused(-4, "setHeight", 0, 0, -1).refused(-4, "setHeight", 0, 0, 1000);
    }

    private static void rowMajorOrder() {
        Due.sentence("Row-major order means by ascending row, and within a row by ascending"
                + " column.");
        Survey x = new Survey().with("resize", 4, 7);
        for (int k = 0; k < 28; k++) {
            x.due(100 * (k / 7) + k % 7, "gapAt", 1, k);
        }
        x.due(-6, "gapAt", 1, 28);
    }
}
