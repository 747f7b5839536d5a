/** What can be asked of a survey, as one row of numbers: two equal rows are two equal states. */
final class State {
    private State() {
    }

    static int[] of(AerialSurvey x) {
        int[] row = new int[600];
        int n = 0;
        for (int r = 0; r < 10; r++) {
            for (int c = 0; c < 16; c++) {
                row[n++] = x.height(r, c);
            }
        }
        row[n++] = x.stripCount();
        for (int strip = 0; strip < 8; strip++) {
            row[n++] = x.photoCount(strip);
            for (int photo = 0; photo < 16; photo++) {
                row[n++] = x.photoColumn(strip, photo);
            }
            row[n++] = x.footprintSize(strip, 0);
            row[n++] = x.stripTime(strip, true);
            row[n++] = x.stripTime(strip, false);
        }
        for (int required = 1; required <= 9; required++) {
            row[n++] = x.gapCount(required);
        }
        row[n++] = x.routeTime(0, 0);
        for (int k = 0; k < 8; k++) {
            row[n++] = x.routeStep(0, 0, k);
        }
        int altitude = x.setAltitude(1000);
        x.setAltitude(altitude);
        row[n++] = altitude;
        return row;
    }
}
