/**
 * A planner for aerial photo surveys: a terrain of heights, strips of photos over it, what the
 * photos see, regular plans with the fewest photos, and the fastest order to fly the strips.
 *
 * <p>Every array is made by the constructor and used again, so no call makes an object.
 */
public final class AerialSurvey {
    /** A row or column is not in the terrain. */
    public static final int OUTSIDE_TERRAIN = -1;
    /** There is no strip with this number. */
    public static final int NO_SUCH_STRIP = -2;
    /** The strip has no photo with this number. */
    public static final int NO_SUCH_PHOTO = -3;
    /** Another argument is out of range. */
    public static final int BAD_VALUE = -4;
    /** There are already 8 strips. */
    public static final int FULL = -5;
    /** There is no result. */
    public static final int NONE = -6;

    private static final int LEAST_ROWS = 3;
    private static final int MOST_ROWS = 10;
    private static final int LEAST_COLUMNS = 4;
    private static final int MOST_COLUMNS = 16;
    private static final int MOST_HEIGHT = 999;
    private static final int MOST_RADIUS = 5;
    private static final int LEAST_ALTITUDE = 100;
    private static final int MOST_ALTITUDE = 5000;
    private static final int MOST_FIELD = 50;
    private static final int MOST_CRAB = 100;
    private static final int LEAST_AIRSPEED = 50;
    private static final int MOST_AIRSPEED = 300;
    private static final int MOST_TAILWIND = 40;
    private static final int MOST_TURN_TIME = 500;
    private static final int MOST_SPACING = 16;
    private static final int MOST_STRIPS = 8;
    private static final int MOST_PHOTOS = MOST_STRIPS * MOST_COLUMNS;
    private static final int MOST_REQUIRED = 9;

    private final Terrain terrain;
    private final Camera camera;
    private final Aircraft aircraft;
    private final StripList strips;
    private final Overlap overlap;
    private final Planner planner;
    private final Router router;

    public AerialSurvey() {
        terrain = new Terrain();
        camera = new Camera();
        aircraft = new Aircraft();
        strips = new StripList();
        overlap = new Overlap();
        planner = new Planner();
        router = new Router();
    }

    // ---- terrain

    public int resize(int rows, int columns) {
        if (!isWithin(rows, LEAST_ROWS, MOST_ROWS)
                || !isWithin(columns, LEAST_COLUMNS, MOST_COLUMNS)) {
            return BAD_VALUE;
        }
        terrain.flatten(rows, columns);
        strips.clear();
        return rows * columns;
    }

    public int setHeight(int row, int column, int height) {
        if (!terrain.contains(row, column)) {
            return OUTSIDE_TERRAIN;
        }
        if (!isWithin(height, 0, MOST_HEIGHT)) {
            return BAD_VALUE;
        }
        int previous = terrain.heightAt(row, column);
        terrain.put(row, column, height);
        return previous;
    }

    public int raiseHill(int row, int column, int radius, int height) {
        if (!terrain.contains(row, column)) {
            return OUTSIDE_TERRAIN;
        }
        if (!isWithin(radius, 0, MOST_RADIUS) || !isWithin(height, 1, MOST_HEIGHT)) {
            return BAD_VALUE;
        }
        return terrain.raise(row, column, radius, height);
    }

    public int height(int row, int column) {
        if (!terrain.contains(row, column)) {
            return OUTSIDE_TERRAIN;
        }
        return terrain.heightAt(row, column);
    }

    // ---- aircraft and camera

    public int setAltitude(int altitude) {
        if (!isWithin(altitude, LEAST_ALTITUDE, MOST_ALTITUDE)) {
            return BAD_VALUE;
        }
        int previous = camera.altitude;
        camera.altitude = altitude;
        return previous;
    }

    public int setFields(int along, int across) {
        if (!isWithin(along, 1, MOST_FIELD) || !isWithin(across, 1, MOST_FIELD)) {
            return BAD_VALUE;
        }
        boolean changed = camera.alongField != along || camera.acrossField != across;
        camera.alongField = along;
        camera.acrossField = across;
        return changed ? 1 : 0;
    }

    public int setCrab(int crab) {
        if (!isWithin(crab, -MOST_CRAB, MOST_CRAB)) {
            return BAD_VALUE;
        }
        boolean changed = camera.crab != crab;
        camera.crab = crab;
        return changed ? 1 : 0;
    }

    public int setSpeed(int airspeed, int tailwind, int turnTime) {
        if (!isWithin(airspeed, LEAST_AIRSPEED, MOST_AIRSPEED)
                || !isWithin(tailwind, -MOST_TAILWIND, MOST_TAILWIND)
                || !isWithin(turnTime, 0, MOST_TURN_TIME)) {
            return BAD_VALUE;
        }
        boolean changed = aircraft.airspeed != airspeed
                || aircraft.tailwind != tailwind
                || aircraft.turnTime != turnTime;
        aircraft.airspeed = airspeed;
        aircraft.tailwind = tailwind;
        aircraft.turnTime = turnTime;
        return changed ? 1 : 0;
    }

    // ---- strips

    public int addStrip(int row, int first, int last, int spacing) {
        if (!terrain.contains(row, first) || !terrain.contains(row, last)) {
            return OUTSIDE_TERRAIN;
        }
        if (last < first || !isWithin(spacing, 1, MOST_SPACING)) {
            return BAD_VALUE;
        }
        return strips.add(row, first, last, spacing);
    }

    public int removeStrip(int strip) {
        if (strips.find(strip) == null) {
            return NO_SUCH_STRIP;
        }
        strips.remove(strip);
        return strips.count;
    }

    public int stripCount() {
        return strips.count;
    }

    public int photoCount(int strip) {
        Strip found = strips.find(strip);
        if (found == null) {
            return NO_SUCH_STRIP;
        }
        return found.photos();
    }

    public int photoColumn(int strip, int photo) {
        Strip found = strips.find(strip);
        if (found == null) {
            return NO_SUCH_STRIP;
        }
        if (!found.hasPhoto(photo)) {
            return NO_SUCH_PHOTO;
        }
        return found.columnOf(photo);
    }

    // ---- coverage

    public int seesCell(int strip, int photo, int row, int column) {
        Strip found = strips.find(strip);
        if (found == null) {
            return NO_SUCH_STRIP;
        }
        if (!found.hasPhoto(photo)) {
            return NO_SUCH_PHOTO;
        }
        if (!terrain.contains(row, column)) {
            return OUTSIDE_TERRAIN;
        }
        return camera.sees(terrain, found.row, found.columnOf(photo), row, column) ? 1 : 0;
    }

    public int footprintSize(int strip, int photo) {
        Strip found = strips.find(strip);
        if (found == null) {
            return NO_SUCH_STRIP;
        }
        if (!found.hasPhoto(photo)) {
            return NO_SUCH_PHOTO;
        }
        int photoColumn = found.columnOf(photo);
        int cells = 0;
        for (int row = 0; row < terrain.rows; row++) {
            for (int column = 0; column < terrain.columns; column++) {
                if (camera.sees(terrain, found.row, photoColumn, row, column)) {
                    cells++;
                }
            }
        }
        return cells;
    }

    public int coverage(int row, int column) {
        if (!terrain.contains(row, column)) {
            return OUTSIDE_TERRAIN;
        }
        return strips.views(terrain, camera, row, column, MOST_PHOTOS);
    }

    public int gapCount(int required) {
        if (!isWithin(required, 1, MOST_REQUIRED)) {
            return BAD_VALUE;
        }
        int gaps = 0;
        for (int row = 0; row < terrain.rows; row++) {
            for (int column = 0; column < terrain.columns; column++) {
                if (strips.views(terrain, camera, row, column, required) < required) {
                    gaps++;
                }
            }
        }
        return gaps;
    }

    public int gapAt(int required, int k) {
        if (!isWithin(required, 1, MOST_REQUIRED) || k < 0) {
            return BAD_VALUE;
        }
        int gapsBefore = 0;
        for (int row = 0; row < terrain.rows; row++) {
            for (int column = 0; column < terrain.columns; column++) {
                if (strips.views(terrain, camera, row, column, required) < required) {
                    if (gapsBefore == k) {
                        return 100 * row + column;
                    }
                    gapsBefore++;
                }
            }
        }
        return NONE;
    }

    public int forwardOverlap(int strip, int photo) {
        Strip found = strips.find(strip);
        if (found == null) {
            return NO_SUCH_STRIP;
        }
        // The number itself is tested first: the greatest int has no next number.
        if (!found.hasPhoto(photo) || !found.hasPhoto(photo + 1)) {
            return NO_SUCH_PHOTO;
        }
        int firstColumn = found.columnOf(photo);
        int secondColumn = found.columnOf(photo + 1);
        overlap.clear();
        for (int row = 0; row < terrain.rows; row++) {
            for (int column = 0; column < terrain.columns; column++) {
                overlap.countCell(
                        camera.sees(terrain, found.row, firstColumn, row, column),
                        camera.sees(terrain, found.row, secondColumn, row, column));
            }
        }
        return overlap.percent();
    }

    public int sideOverlap(int first, int second) {
        Strip one = strips.find(first);
        Strip other = strips.find(second);
        if (one == null || other == null) {
            return NO_SUCH_STRIP;
        }
        overlap.clear();
        for (int row = 0; row < terrain.rows; row++) {
            for (int column = 0; column < terrain.columns; column++) {
                overlap.countCell(
                        one.sees(terrain, camera, row, column),
                        other.sees(terrain, camera, row, column));
            }
        }
        return overlap.percent();
    }

    // ---- regular plans

    public int planPhotos(int required) {
        if (!isWithin(required, 1, MOST_REQUIRED)) {
            return BAD_VALUE;
        }
        return planner.search(terrain, camera, required) ? planner.photos : NONE;
    }

    public int planRowSpacing(int required) {
        if (!isWithin(required, 1, MOST_REQUIRED)) {
            return BAD_VALUE;
        }
        return planner.search(terrain, camera, required) ? planner.rowSpacing : NONE;
    }

    public int planPhotoSpacing(int required) {
        if (!isWithin(required, 1, MOST_REQUIRED)) {
            return BAD_VALUE;
        }
        return planner.search(terrain, camera, required) ? planner.photoSpacing : NONE;
    }

    public int applyPlan(int required) {
        if (!isWithin(required, 1, MOST_REQUIRED)) {
            return BAD_VALUE;
        }
        if (!planner.search(terrain, camera, required)) {
            return NONE;
        }
        strips.layOut(terrain, planner.rowSpacing, planner.photoSpacing);
        return strips.count;
    }

    // ---- routes

    public int stripTime(int strip, boolean eastbound) {
        Strip found = strips.find(strip);
        if (found == null) {
            return NO_SUCH_STRIP;
        }
        return aircraft.flightTime(found, eastbound);
    }

    public int routeTime(int baseRow, int baseColumn) {
        if (!terrain.contains(baseRow, baseColumn)) {
            return OUTSIDE_TERRAIN;
        }
        return router.fastestTime(strips, aircraft, baseRow, baseColumn);
    }

    public int routeStep(int baseRow, int baseColumn, int k) {
        if (!terrain.contains(baseRow, baseColumn)) {
            return OUTSIDE_TERRAIN;
        }
        if (k < 0) {
            return BAD_VALUE;
        }
        if (k >= strips.count) {
            return NONE;
        }
        return router.fastestStep(strips, aircraft, baseRow, baseColumn, k);
    }

    // ---- numbers

    private static boolean isWithin(int value, int least, int most) {
        return value >= least && value <= most;
    }

    /** Rounded down for dividends from 0; 0 where there is nothing to divide by. */
    private static int quotient(int dividend, int divisor) {
        return divisor > 0 ? dividend / divisor : 0;
    }

    /** The grid of heights. */
    private static final class Terrain {
        int rows;
        int columns;
        // Rows lie MOST_COLUMNS apart, so that one array serves every size of terrain.
        private final int[] heights;

        Terrain() {
            rows = 6;
            columns = 10;
            heights = new int[MOST_ROWS * MOST_COLUMNS];
        }

        boolean contains(int row, int column) {
            return row >= 0 && row < rows && column >= 0 && column < columns;
        }

        void flatten(int newRows, int newColumns) {
            rows = newRows;
            columns = newColumns;
            for (int cell = 0; cell < heights.length; cell++) {
                heights[cell] = 0;
            }
        }

        int heightAt(int row, int column) {
            int cell = row * MOST_COLUMNS + column;
            return cell >= 0 && cell < heights.length ? heights[cell] : 0;
        }

        void put(int row, int column, int height) {
            int cell = row * MOST_COLUMNS + column;
            if (cell >= 0 && cell < heights.length) {
                heights[cell] = height;
            }
        }

        int raise(int topRow, int topColumn, int radius, int height) {
            int changed = 0;
            for (int row = 0; row < rows; row++) {
                for (int column = 0; column < columns; column++) {
                    int distance = Math.max(Math.abs(row - topRow), Math.abs(column - topColumn));
                    if (distance <= radius) {
                        int rise = quotient(height * (radius + 1 - distance), radius + 1);
                        int before = heightAt(row, column);
                        int after = Math.min(MOST_HEIGHT, before + rise);
                        put(row, column, after);
                        changed += after != before ? 1 : 0;
                    }
                }
            }
            return changed;
        }
    }

    /** What a photo sees, wherever it is taken. */
    private static final class Camera {
        int altitude;
        int alongField;
        int acrossField;
        int crab;

        Camera() {
            altitude = 1000;
            alongField = 3;
            acrossField = 2;
            crab = 0;
        }

        boolean sees(Terrain terrain, int photoRow, int photoColumn, int row, int column) {
            int above = altitude - terrain.heightAt(row, column);
            if (above <= 0) {
                return false;
            }
            int rowWay = row - photoRow;
            int columnWay = column - photoColumn;
            return Math.abs(100 * columnWay + crab * rowWay) <= above * alongField / 10
                    && Math.abs(100 * rowWay - crab * columnWay) <= above * acrossField / 10
                    && isLineFree(terrain, photoRow, photoColumn, row, column);
        }

        private boolean isLineFree(
                Terrain terrain, int photoRow, int photoColumn, int row, int column) {
            int rowWay = row - photoRow;
            int columnWay = column - photoColumn;
            int steps = Math.max(Math.abs(rowWay), Math.abs(columnWay));
            if (steps < 2) {
                return true;
            }
            int slope = terrain.heightAt(row, column) - altitude;
            for (int k = 1; k < steps; k++) {
                // Adding half a divisor before rounding down sends exact halves upward.
                int passedRow = photoRow + Math.floorDiv(2 * k * rowWay + steps, 2 * steps);
                int passedColumn =
                        photoColumn + Math.floorDiv(2 * k * columnWay + steps, 2 * steps);
                int ground = terrain.heightAt(passedRow, passedColumn);
                if (ground * steps > altitude * steps + slope * k) {
                    return false;
                }
            }
            return true;
        }
    }

    /** One strip; the list that holds it writes its numbers anew when strips come and go. */
    private static final class Strip {
        int row;
        int first;
        int last;
        int spacing;

        void put(int newRow, int newFirst, int newLast, int newSpacing) {
            row = newRow;
            first = newFirst;
            last = newLast;
            spacing = newSpacing;
        }

        int photos() {
            return quotient(last - first, spacing) + 1;
        }

        boolean hasPhoto(int photo) {
            return photo >= 0 && photo < photos();
        }

        int columnOf(int photo) {
            return first + photo * spacing;
        }

        int entryColumn(boolean eastbound) {
            return eastbound ? first : last;
        }

        int exitColumn(boolean eastbound) {
            return eastbound ? last : first;
        }

        /** Whether at least one of the photos sees the cell. */
        boolean sees(Terrain terrain, Camera camera, int cellRow, int cellColumn) {
            int photos = photos();
            for (int photo = 0; photo < photos; photo++) {
                if (camera.sees(terrain, row, columnOf(photo), cellRow, cellColumn)) {
                    return true;
                }
            }
            return false;
        }
    }

    /** The strips of a survey or of a plan, by number. */
    private static final class StripList {
        int count;
        private final Strip[] strips;

        StripList() {
            strips = new Strip[MOST_STRIPS];
            for (int strip = 0; strip < strips.length; strip++) {
                strips[strip] = new Strip();
            }
        }

        void clear() {
            count = 0;
        }

        /** The strip with this number, or null. */
        Strip find(int strip) {
            return strip < count ? slot(strip) : null;
        }

        /** Where the strip with this number is or would be held; null if there is no room. */
        private Strip slot(int strip) {
            return strip >= 0 && strip < strips.length ? strips[strip] : null;
        }

        /** The number of the new strip, or FULL. */
        int add(int row, int first, int last, int spacing) {
            Strip free = slot(count);
            if (free == null) {
                return FULL;
            }
            free.put(row, first, last, spacing);
            count++;
            return count - 1;
        }

        void remove(int strip) {
            if (find(strip) == null) {
                return;
            }
            for (int number = strip; number + 1 < count; number++) {
                Strip here = find(number);
                Strip next = find(number + 1);
                if (here != null && next != null) {
                    here.put(next.row, next.first, next.last, next.spacing);
                }
            }
            count--;
        }

        /** Replaces the strips by those of a regular plan; false if there is no room for them. */
        boolean layOut(Terrain terrain, int rowSpacing, int photoSpacing) {
            int firstRow = rowSpacing / 2;
            int needed = quotient(terrain.rows - 1 - firstRow, rowSpacing) + 1;
            if (needed > strips.length) {
                return false;
            }
            clear();
            for (int strip = 0; strip < needed; strip++) {
                add(firstRow + strip * rowSpacing, 0, terrain.columns - 1, photoSpacing);
            }
            return true;
        }

        int photoTotal() {
            int total = 0;
            for (int number = 0; number < count; number++) {
                Strip strip = find(number);
                total += strip != null ? strip.photos() : 0;
            }
            return total;
        }

        /** How many photos see the cell, counted no further than the limit. */
        int views(Terrain terrain, Camera camera, int row, int column, int limit) {
            int views = 0;
            for (int number = 0; number < count; number++) {
                Strip strip = find(number);
                if (strip == null) {
                    return views;
                }
                int photos = strip.photos();
                for (int photo = 0; photo < photos && views < limit; photo++) {
                    if (camera.sees(terrain, strip.row, strip.columnOf(photo), row, column)) {
                        views++;
                    }
                }
            }
            return views;
        }

        boolean leavesGap(Terrain terrain, Camera camera, int required) {
            for (int row = 0; row < terrain.rows; row++) {
                for (int column = 0; column < terrain.columns; column++) {
                    if (views(terrain, camera, row, column, required) < required) {
                        return true;
                    }
                }
            }
            return false;
        }
    }

    /** Counts the cells that two photos, or two strips, see. */
    private static final class Overlap {
        private int one;
        private int other;
        private int both;

        void clear() {
            one = 0;
            other = 0;
            both = 0;
        }

        void countCell(boolean seenByOne, boolean seenByOther) {
            one += seenByOne ? 1 : 0;
            other += seenByOther ? 1 : 0;
            both += seenByOne && seenByOther ? 1 : 0;
        }

        int percent() {
            return quotient(both * 100, Math.min(one, other));
        }
    }

    /** The best regular plan, as the last search that found one left it. */
    private static final class Planner {
        int rowSpacing;
        int photoSpacing;
        int photos;
        private final StripList trial;

        Planner() {
            trial = new StripList();
        }

        /** Whether there is a feasible plan. */
        boolean search(Terrain terrain, Camera camera, int required) {
            boolean found = false;
            // Great spacings come first, so that of plans with equally many photos the first
            // one is the best, and only a plan with fewer photos is worth looking at.
            for (int rowStep = terrain.rows; rowStep >= 1; rowStep--) {
                for (int photoStep = terrain.columns; photoStep >= 1; photoStep--) {
                    if (trial.layOut(terrain, rowStep, photoStep)
                            && (!found || trial.photoTotal() < photos)
                            && !trial.leavesGap(terrain, camera, required)) {
                        found = true;
                        rowSpacing = rowStep;
                        photoSpacing = photoStep;
                        photos = trial.photoTotal();
                    }
                }
            }
            return found;
        }
    }

    /** How long flights and transfers take. */
    private static final class Aircraft {
        int airspeed;
        int tailwind;
        int turnTime;

        Aircraft() {
            airspeed = 100;
            tailwind = 0;
            turnTime = 60;
        }

        int flightTime(Strip strip, boolean eastbound) {
            int groundSpeed = eastbound ? airspeed + tailwind : airspeed - tailwind;
            return quotient((strip.last - strip.first) * 1000, groundSpeed);
        }

        int transferTime(int row, int column, Strip strip, boolean eastbound) {
            int way = Math.abs(strip.row - row) + Math.abs(strip.entryColumn(eastbound) - column);
            return quotient(way * 1000, airspeed) + turnTime;
        }
    }

    /**
     * Finds the fastest route from its end: the least time for every set of strips that are not
     * flown yet, behind every step. Then the lowest step that keeps the least time is the step
     * of the route that is due, from the base on.
     *
     * <p>A step is 2 * strip, plus 1 westbound; a set of strips has bit n for strip n.
     */
    private static final class Router {
        private static final int MOST_STEPS = 2 * MOST_STRIPS;

        private final int[] timeLeft;
        private int chosenStep;
        private int chosenTime;

        Router() {
            timeLeft = new int[(1 << MOST_STRIPS) * MOST_STEPS];
        }

        int fastestTime(StripList strips, Aircraft aircraft, int baseRow, int baseColumn) {
            fillTimes(strips, aircraft);
            choose(strips, aircraft, (1 << strips.count) - 1, baseRow, baseColumn);
            return chosenTime;
        }

        int fastestStep(StripList strips, Aircraft aircraft, int baseRow, int baseColumn, int k) {
            fillTimes(strips, aircraft);
            int unflown = (1 << strips.count) - 1;
            choose(strips, aircraft, unflown, baseRow, baseColumn);
            for (int step = 0; step < k && step < MOST_STRIPS; step++) {
                Strip flown = strips.find(chosenStep / 2);
                if (flown == null) {
                    return NONE;
                }
                unflown &= ~(1 << chosenStep / 2);
                int column = flown.exitColumn(isEastbound(chosenStep));
                choose(strips, aircraft, unflown, flown.row, column);
            }
            return chosenStep;
        }

        private void fillTimes(StripList strips, Aircraft aircraft) {
            // A set without one of its strips is a lower number, so its times stand already.
            for (int unflown = 0; unflown < 1 << strips.count; unflown++) {
                for (int step = 0; step < 2 * strips.count; step++) {
                    Strip flown = strips.find(step / 2);
                    if (flown != null && !isIn(unflown, step / 2)) {
                        int column = flown.exitColumn(isEastbound(step));
                        choose(strips, aircraft, unflown, flown.row, column);
                        putTimeLeft(unflown, step, chosenTime);
                    }
                }
            }
        }

        /** Chooses the best next step from a place; time 0 and no step if all is flown. */
        private void choose(
                StripList strips, Aircraft aircraft, int unflown, int row, int column) {
            chosenStep = NONE;
            chosenTime = 0;
            for (int step = 0; step < 2 * strips.count; step++) {
                Strip next = strips.find(step / 2);
                if (next != null && isIn(unflown, step / 2)) {
                    boolean eastbound = isEastbound(step);
                    int rest = unflown & ~(1 << step / 2);
                    int time = aircraft.transferTime(row, column, next, eastbound)
                            + aircraft.flightTime(next, eastbound)
                            + timeLeftAt(rest, step);
                    if (chosenStep == NONE || time < chosenTime) {
                        chosenStep = step;
                        chosenTime = time;
                    }
                }
            }
        }

        private int timeLeftAt(int unflown, int step) {
            int entry = unflown * MOST_STEPS + step;
            return entry >= 0 && entry < timeLeft.length ? timeLeft[entry] : 0;
        }

        private void putTimeLeft(int unflown, int step, int time) {
            int entry = unflown * MOST_STEPS + step;
            if (entry >= 0 && entry < timeLeft.length) {
                timeLeft[entry] = time;
            }
        }

        private static boolean isIn(int set, int strip) {
            return (set >> strip & 1) == 1;
        }

        private static boolean isEastbound(int step) {
            return step % 2 == 0;
        }
    }
}
