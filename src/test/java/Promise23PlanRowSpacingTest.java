/** Promise 23: planRowSpacing. What the best plan is is tested in Promise22PlanPhotosTest. */
public final class Promise23PlanRowSpacingTest {
    public static void main(String[] args) {
        spacings();
        required();
        answers();
        Due.end();
    }

    private static void spacings() {
        Due.sentence("Returns the row spacing of the best regular plan (see planPhotos).");
        new Survey().unchangedBy(3, "planRowSpacing", 2).unchangedBy(1, "planRowSpacing", 9);
        for (int rows : Ints.range(3, 10)) {
            Plans.seeingAll(rows, 4).with("addStrip", 0, 0, 3, 1)
                    .unchangedBy(rows, "planRowSpacing", 1);
        }
        Plans.seeingOneCell(8, 4).due(1, "planRowSpacing", 1);
    }

    private static void required() {
        Due.sentence("`required`: from 1 to 9");
        int[] due = {0, 6, 6, 6, 6, 6, 3, 3, 3, 2};
        for (int required : Ints.range(1, 9)) {
            Plans.seeingAll(6, 10).due(due[required], "planRowSpacing", required);
        }
        Survey x = new Survey().with("addStrip", 2, 1, 8, 3);
        for (int required : Ints.outside(1, 9)) {
            x.refused(-4, "planRowSpacing", required);
        }
    }

    private static void answers() {
        Due.sentence("Returns the row spacing; BAD_VALUE; NONE if no plan is feasible.");
        Survey none = Plans.seeingOneCell(6, 10).with("addStrip", 2, 1, 8, 3);
        none.refused(-6, "planRowSpacing", 2).refused(-6, "planRowSpacing", 9);
        none.refused(-4, "planRowSpacing", 0).refused(-4, "planRowSpacing", 10);
        Plans.seeingOneCell(9, 4).refused(-6, "planRowSpacing", 1);
    }
}
