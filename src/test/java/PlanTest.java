/** Promises 22 to 25: the best regular plan. */
public final class PlanTest {
    public static void main(String[] args) {
        greatestSpacingsAmongEquals();
        noPlanWithTheFirstRowAlone();
        mostStrips();
        plansLeaveTheStrips();
        applyPlan();
        applyPlanWithoutOne();
        wrong();
        Due.end();
    }

    private static AerialSurvey seeingAll() {
        AerialSurvey x = new AerialSurvey();
        x.setAltitude(5000);
        x.setFields(50, 50);
        return x;
    }

    private static AerialSurvey seeingOneCellEach() {
        AerialSurvey x = new AerialSurvey();
        x.setAltitude(100);
        x.setFields(1, 1);
        return x;
    }

    private static void duePlan(AerialSurvey x, int required, int photos, int rows, int columns) {
        Due.due("planPhotos(" + required + ")", x.planPhotos(required), photos);
        Due.due("planRowSpacing(" + required + ")", x.planRowSpacing(required), rows);
        Due.due("planPhotoSpacing(" + required + ")", x.planPhotoSpacing(required), columns);
    }

    private static void greatestSpacingsAmongEquals() {
        AerialSurvey x = seeingAll();
        // Every photo sees all: the plan needs just 'required' photos, where a plan has so many.
        duePlan(x, 1, 1, 6, 10);
        duePlan(x, 2, 2, 6, 9);
        duePlan(x, 3, 3, 6, 4);
        duePlan(x, 4, 4, 6, 3);
        duePlan(x, 5, 5, 6, 2);
        duePlan(x, 6, 6, 3, 4);
        duePlan(x, 7, 8, 3, 3);
        duePlan(x, 8, 8, 3, 3);
        duePlan(x, 9, 9, 2, 4);
    }

    private static void noPlanWithTheFirstRowAlone() {
        AerialSurvey x = new AerialSurvey();
        x.resize(3, 4);
        x.setFields(50, 2);
        x.setHeight(0, 0, 600);
        // One strip in row 0 would see all; but a plan's only strip lies in row 1 here, too far
        // from the hill.
        duePlan(x, 1, 3, 1, 4);
    }

    private static void mostStrips() {
        AerialSurvey x = seeingOneCellEach();
        x.resize(8, 4);
        duePlan(x, 1, 32, 1, 1);
        Due.due("applyPlan(1) with 8 strips", x.applyPlan(1), 8);
        duePlan(x, 2, -6, -6, -6);
        x.resize(9, 4);
        duePlan(x, 1, -6, -6, -6);
        x.resize(10, 4);
        duePlan(x, 1, -6, -6, -6);
    }

    private static void plansLeaveTheStrips() {
        AerialSurvey x = new AerialSurvey();
        for (int strip = 0; strip < 8; strip++) {
            x.addStrip(strip % 6, strip, 9, 2);
        }
        int[] before = State.of(x);
        duePlan(x, 2, 8, 3, 3);
        duePlan(x, 9, 60, 1, 1);
        Due.due("the state after plans", State.of(x), before);
    }

    private static void applyPlan() {
        AerialSurvey x = new AerialSurvey();
        for (int strip = 0; strip < 8; strip++) {
            x.addStrip(strip % 6, strip, 9, 2);
        }
        Due.due("applyPlan(2)", x.applyPlan(2), 2);
        Due.due("stripCount()", x.stripCount(), 2);
        Due.due("gapCount(2)", x.gapCount(2), 0);
        x.setAltitude(100);
        int[] rows = {1, 4};
        for (int strip = 0; strip < 2; strip++) {
            Due.due("photoCount", x.photoCount(strip), 4);
            for (int photo = 0; photo < 4; photo++) {
                Due.due("photoColumn", x.photoColumn(strip, photo), 3 * photo);
                Due.due("the row of a strip", x.seesCell(strip, photo, rows[strip], 3 * photo), 1);
            }
            Due.due("from column 0 to the last", x.stripTime(strip, true), 90);
        }
        AerialSurvey y = seeingAll();
        Due.due("applyPlan(1)", y.applyPlan(1), 1);
        Due.due("photoCount(0)", y.photoCount(0), 1);
        Due.due("even a strip of one photo is flown to the last column", y.stripTime(0, true), 90);
        y.setAltitude(100);
        y.setFields(1, 1);
        Due.due("the row of the strip", y.seesCell(0, 0, 3, 0), 1);
    }

    private static void applyPlanWithoutOne() {
        AerialSurvey x = seeingOneCellEach();
        x.addStrip(2, 1, 8, 3);
        x.addStrip(5, 0, 9, 2);
        int[] before = State.of(x);
        Due.due("applyPlan(2)", x.applyPlan(2), -6);
        Due.due("the state after it", State.of(x), before);
        x.setHeight(0, 0, 100);
        before = State.of(x);
        Due.due("applyPlan(1) with a cell that no photo sees", x.applyPlan(1), -6);
        Due.due("the state after it", State.of(x), before);
    }

    private static void wrong() {
        AerialSurvey x = new AerialSurvey();
        x.addStrip(2, 1, 8, 3);
        int[] before = State.of(x);
        int[] wrong = {0, 10, -1, Integer.MAX_VALUE, Integer.MIN_VALUE};
        for (int w : wrong) {
            duePlan(x, w, -4, -4, -4);
            Due.due("applyPlan(" + w + ")", x.applyPlan(w), -4);
            Due.due("the state after it", State.of(x), before);
        }
    }
}
