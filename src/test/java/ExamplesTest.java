/** The four worked examples of the document's 'Description'. */
public final class ExamplesTest {
    public static void main(String[] args) {
        stripOverFlatTerrain();
        hillInTheLineOfSight();
        regularPlans();
        stripTimesAndRoute();
        Due.end();
    }

    private static void stripOverFlatTerrain() {
        AerialSurvey x = new AerialSurvey();
        Due.due("resize(5, 8)", x.resize(5, 8), 40);
        Due.due("addStrip(2, 0, 7, 3)", x.addStrip(2, 0, 7, 3), 0);
        Due.due("photoCount(0)", x.photoCount(0), 3);
        Due.due("photoColumn(0, 2)", x.photoColumn(0, 2), 6);
        Due.due("photoColumn(0, 3)", x.photoColumn(0, 3), -3);
        Due.due("footprintSize(0, 0)", x.footprintSize(0, 0), 20);
        Due.due("seesCell(0, 0, 0, 3)", x.seesCell(0, 0, 0, 3), 1);
        Due.due("seesCell(0, 0, 0, 4)", x.seesCell(0, 0, 0, 4), 0);
        Due.due("coverage(2, 3)", x.coverage(2, 3), 3);
        Due.due("gapCount(2)", x.gapCount(2), 5);
        Due.due("gapAt(2, 0)", x.gapAt(2, 0), 7);
        Due.due("forwardOverlap(0, 0)", x.forwardOverlap(0, 0), 100);
        Due.due("forwardOverlap(0, 2)", x.forwardOverlap(0, 2), -3);
    }

    private static void hillInTheLineOfSight() {
        AerialSurvey x = new AerialSurvey();
        Due.due("resize(5, 8)", x.resize(5, 8), 40);
        Due.due("addStrip(2, 0, 7, 7)", x.addStrip(2, 0, 7, 7), 0);
        Due.due("seesCell(0, 0, 2, 3)", x.seesCell(0, 0, 2, 3), 1);
        Due.due("raiseHill(2, 1, 0, 700)", x.raiseHill(2, 1, 0, 700), 1);
        Due.due("seesCell behind 700", x.seesCell(0, 0, 2, 3), 0);
        Due.due("setHeight(2, 1, 666)", x.setHeight(2, 1, 666), 700);
        Due.due("seesCell behind 666", x.seesCell(0, 0, 2, 3), 1);
        Due.due("setHeight(2, 1, 667)", x.setHeight(2, 1, 667), 666);
        Due.due("seesCell behind 667", x.seesCell(0, 0, 2, 3), 0);
        Due.due("setHeight(2, 8, 5)", x.setHeight(2, 8, 5), -1);
    }

    private static void regularPlans() {
        AerialSurvey x = new AerialSurvey();
        Due.due("resize(6, 10)", x.resize(6, 10), 60);
        Due.due("planPhotos(2)", x.planPhotos(2), 8);
        Due.due("planRowSpacing(2)", x.planRowSpacing(2), 3);
        Due.due("planPhotoSpacing(2)", x.planPhotoSpacing(2), 3);
        Due.due("applyPlan(2)", x.applyPlan(2), 2);
        Due.due("stripCount()", x.stripCount(), 2);
        Due.due("gapCount(2)", x.gapCount(2), 0);
        Due.due("planPhotos(9)", x.planPhotos(9), 60);
        Due.due("setFields(1, 1)", x.setFields(1, 1), 1);
        Due.due("planPhotos(2) of narrow fields", x.planPhotos(2), 20);
        Due.due("planPhotos(9) of narrow fields", x.planPhotos(9), -6);
    }

    private static void stripTimesAndRoute() {
        AerialSurvey x = new AerialSurvey();
        Due.due("addStrip(1, 0, 9, 3)", x.addStrip(1, 0, 9, 3), 0);
        Due.due("addStrip(4, 0, 9, 3)", x.addStrip(4, 0, 9, 3), 1);
        Due.due("setSpeed(100, 20, 50)", x.setSpeed(100, 20, 50), 1);
        Due.due("stripTime(0, true)", x.stripTime(0, true), 75);
        Due.due("stripTime(0, false)", x.stripTime(0, false), 112);
        Due.due("routeTime(0, 0)", x.routeTime(0, 0), 327);
        Due.due("routeStep(0, 0, 0)", x.routeStep(0, 0, 0), 0);
        Due.due("routeStep(0, 0, 1)", x.routeStep(0, 0, 1), 3);
        Due.due("routeStep(0, 0, 2)", x.routeStep(0, 0, 2), -6);
        Due.due("routeTime(6, 0)", x.routeTime(6, 0), -1);
    }
}
