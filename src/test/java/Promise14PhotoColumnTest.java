/** Promise 14: photoColumn. */
public final class Promise14PhotoColumnTest {
    public static void main(String[] args) {
        columns();
        strips();
        photos();
        answers();
        Due.end();
    }

    private static Survey two() {
        // Columns 1, 5 and 9; columns 2 and 6, with no photo at the last column.
        return new Survey().with("addStrip", 0, 1, 9, 4).with("addStrip", 3, 2, 9, 4);
    }

    private static void columns() {
        Due.sentence("Returns the column in which a photo is taken.");
        Survey x = two();
        x.unchangedBy(1, "photoColumn", 0, 0).unchangedBy(5, "photoColumn", 0, 1)
                .unchangedBy(9, "photoColumn", 0, 2);
        x.unchangedBy(2, "photoColumn", 1, 0).unchangedBy(6, "photoColumn", 1, 1);
    }

    private static void strips() {
        Due.sentence("`strip`: number of the strip");
        for (int strip : Ints.outside(0, 1)) {
            two().refused(-2, "photoColumn", strip, 0);
        }
    }

    private static void photos() {
        Due.sentence("`photo`: number of the photo");
        for (int photo : Ints.outside(0, 2)) {
            two().refused(-3, "photoColumn", 0, photo);
        }
        for (int photo : Ints.outside(0, 1)) {
            two().refused(-3, "photoColumn", 1, photo);
        }
        // Such a number of a photo times 4 would wrap around into the strip.
        two().refused(-3, "photoColumn", 0, 1 << 30).refused(-3, "photoColumn", 0, 1 - (1 << 30));
    }

    private static void answers() {
        Due.sentence("Returns the column; NO_SUCH_STRIP; NO_SUCH_PHOTO.");
        two().refused(-2, "photoColumn", 2, 3).refused(-2, "photoColumn", -1, -1);
        two().refused(-3, "photoColumn", 1, 2);
        new Survey().refused(-2, "photoColumn", 0, 0);
    }
}
