/** Promise 24: planPhotoSpacing. What the best plan is is tested in Promise22PlanPhotosTest. */
public final class Promise24PlanPhotoSpacingTest {
    public static void main(String[] args) {
        spacings();
        required();
        answers();
        Due.end();
    }

    private static void spacings() {
        Due.sentence("Returns the photo spacing of the best regular plan (see planPhotos).");
        new Survey().unchangedBy(3, "planPhotoSpacing", 2).unchangedBy(1, "planPhotoSpacing", 9);
        for (int columns : Ints.range(4, 16)) {
            Plans.seeingAll(3, columns).with("addStrip", 0, 0, 3, 1)
                    .unchangedBy(columns, "planPhotoSpacing", 1);
        }
        Plans.seeingOneCell(8, 4).due(1, "planPhotoSpacing", 1);
    }

    private static void required() {
        Due.sentence("`required`: from 1 to 9");
        int[] due = {0, 10, 9, 4, 3, 2, 4, 3, 3, 4};
        for (int required : Ints.range(1, 9)) {
            Plans.seeingAll(6, 10).due(due[required], "planPhotoSpacing", required);
        }
        Survey x = new Survey().with("addStrip", 2, 1, 8, 3);
        for (int required : Ints.outside(1, 9)) {
            x.refused(-4, "planPhotoSpacing", required);
        }
    }

    private static void answers() {
        Due.sentence("Returns the photo spacing; BAD_VALUE; NONE if no plan is feasible.");
        Survey none = Plans.seeingOneCell(6, 10).with("addStrip", 2, 1, 8, 3);
        none.refused(-6, "planPhotoSpacing", 2).refused(-6, "planPhotoSpacing", 9);
        none.refused(-4, "planPhotoSpacing", 0).refused(-4, "planPhotoSpacing", 10);
        Plans.seeingOneCell(9, 4).refused(-6, "planPhotoSpacing", 1);
    }
}
