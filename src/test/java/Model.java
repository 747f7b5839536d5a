import java.util.ArrayList;
import java.util.List;

/**
 * The document again, written another way and without care for time: maps of who sees what,
 * all plans side by side, all routes tried. ModelTest compares the class with it.
 */
public final class Model {
    private static final class Line {
        final int row;
        final int first;
        final int last;
        final List<Integer> photos = new ArrayList<>();

        Line(int row, int first, int last, int spacing) {
            this.row = row;
            this.first = first;
            this.last = last;
            for (int column = first; column <= last; column += spacing) {
                photos.add(column);
            }
        }
    }

    private record Plan(int photos, int rowSpacing, int photoSpacing) {
        boolean isBetterThan(Plan other) {
            if (other == null || photos != other.photos) {
                return other == null || photos < other.photos;
            }
            return rowSpacing != other.rowSpacing
                    ? rowSpacing > other.rowSpacing
                    : photoSpacing > other.photoSpacing;
        }
    }

    private int[][] ground = new int[6][10];
    private List<Line> lines = new ArrayList<>();
    private int altitude = 1000;
    private int along = 3;
    private int across = 2;
    private int crab = 0;
    private int airspeed = 100;
    private int tailwind = 0;
    private int turnTime = 60;

    private boolean outside(int row, int column) {
        return row < 0 || row >= ground.length || column < 0 || column >= ground[0].length;
    }

    private boolean noStrip(int strip) {
        return strip < 0 || strip >= lines.size();
    }

    private boolean noPhoto(int strip, int photo) {
        return photo < 0 || photo >= lines.get(strip).photos.size();
    }

    private static boolean badRequired(int required) {
        return required < 1 || required > 9;
    }

    public int resize(int rows, int columns) {
        if (rows < 3 || rows > 10 || columns < 4 || columns > 16) {
            return -4;
        }
        ground = new int[rows][columns];
        lines = new ArrayList<>();
        return rows * columns;
    }

    public int setHeight(int row, int column, int height) {
        if (outside(row, column)) {
            return -1;
        }
        if (height < 0 || height > 999) {
            return -4;
        }
        int previous = ground[row][column];
        ground[row][column] = height;
        return previous;
    }

    public int raiseHill(int row, int column, int radius, int height) {
        if (outside(row, column)) {
            return -1;
        }
        if (radius < 0 || radius > 5 || height < 1 || height > 999) {
            return -4;
        }
        int changed = 0;
        for (int r = row - radius; r <= row + radius; r++) {
            for (int c = column - radius; c <= column + radius; c++) {
                if (!outside(r, c)) {
                    int d = Math.max(Math.abs(r - row), Math.abs(c - column));
                    int rise = (int) Math.floor(height * (radius + 1.0 - d) / (radius + 1.0) + 1e-9);
                    int before = ground[r][c];
                    ground[r][c] = Math.min(999, before + rise);
                    if (ground[r][c] != before) {
                        changed++;
                    }
                }
            }
        }
        return changed;
    }

    public int height(int row, int column) {
        return outside(row, column) ? -1 : ground[row][column];
    }

    public int setAltitude(int value) {
        if (value < 100 || value > 5000) {
            return -4;
        }
        int previous = altitude;
        altitude = value;
        return previous;
    }

    public int setFields(int newAlong, int newAcross) {
        if (Math.min(newAlong, newAcross) < 1 || Math.max(newAlong, newAcross) > 50) {
            return -4;
        }
        int changed = along == newAlong && across == newAcross ? 0 : 1;
        along = newAlong;
        across = newAcross;
        return changed;
    }

    public int setCrab(int value) {
        if (value < -100 || value > 100) {
            return -4;
        }
        int changed = crab == value ? 0 : 1;
        crab = value;
        return changed;
    }

    public int setSpeed(int air, int wind, int turn) {
        if (air < 50 || air > 300 || wind < -40 || wind > 40 || turn < 0 || turn > 500) {
            return -4;
        }
        int changed = airspeed == air && tailwind == wind && turnTime == turn ? 0 : 1;
        airspeed = air;
        tailwind = wind;
        turnTime = turn;
        return changed;
    }

    public int addStrip(int row, int first, int last, int spacing) {
        if (outside(row, first) || outside(row, last)) {
            return -1;
        }
        if (last < first || spacing < 1 || spacing > 16) {
            return -4;
        }
        if (lines.size() == 8) {
            return -5;
        }
        lines.add(new Line(row, first, last, spacing));
        return lines.size() - 1;
    }

    public int removeStrip(int strip) {
        if (noStrip(strip)) {
            return -2;
        }
        lines.remove(strip);
        return lines.size();
    }

    public int stripCount() {
        return lines.size();
    }

    public int photoCount(int strip) {
        return noStrip(strip) ? -2 : lines.get(strip).photos.size();
    }

    public int photoColumn(int strip, int photo) {
        if (noStrip(strip)) {
            return -2;
        }
        return noPhoto(strip, photo) ? -3 : lines.get(strip).photos.get(photo);
    }

    private boolean sees(int pr, int pc, int r, int c) {
        int h = ground[r][c];
        int dr = r - pr;
        int dc = c - pc;
        if (altitude <= h
                || Math.abs(100 * dc + crab * dr) > Math.floor((altitude - h) * along / 10.0)
                || Math.abs(100 * dr - crab * dc) > Math.floor((altitude - h) * across / 10.0)) {
            return false;
        }
        int n = Math.max(Math.abs(dr), Math.abs(dc));
        for (int k = 1; k <= n - 1; k++) {
            int passedRow = pr + (int) Math.floor(k * dr / (double) n + 0.5);
            int passedColumn = pc + (int) Math.floor(k * dc / (double) n + 0.5);
            if ((long) ground[passedRow][passedColumn] * n > (long) altitude * n + (h - altitude) * k) {
                return false;
            }
        }
        return true;
    }

    /** How often each cell is seen by the photos of these strips. */
    private int[][] seen(List<Line> of) {
        int[][] seen = new int[ground.length][ground[0].length];
        for (Line line : of) {
            for (int photo : line.photos) {
                for (int r = 0; r < seen.length; r++) {
                    for (int c = 0; c < seen[0].length; c++) {
                        seen[r][c] += sees(line.row, photo, r, c) ? 1 : 0;
                    }
                }
            }
        }
        return seen;
    }

    private int[][] seenBy(int strip, int photo) {
        Line line = lines.get(strip);
        int column = line.photos.get(photo);
        return seen(List.of(new Line(line.row, column, column, 1)));
    }

    private static int cellsOf(int[][] seen) {
        int cells = 0;
        for (int[] row : seen) {
            for (int count : row) {
                cells += count > 0 ? 1 : 0;
            }
        }
        return cells;
    }

    private static int overlap(int[][] one, int[][] other) {
        int shared = 0;
        for (int r = 0; r < one.length; r++) {
            for (int c = 0; c < one[0].length; c++) {
                shared += one[r][c] > 0 && other[r][c] > 0 ? 1 : 0;
            }
        }
        int fewer = Math.min(cellsOf(one), cellsOf(other));
        return fewer == 0 ? 0 : shared * 100 / fewer;
    }

    public int seesCell(int strip, int photo, int row, int column) {
        if (noStrip(strip)) {
            return -2;
        }
        if (noPhoto(strip, photo)) {
            return -3;
        }
        if (outside(row, column)) {
            return -1;
        }
        return seenBy(strip, photo)[row][column];
    }

    public int footprintSize(int strip, int photo) {
        if (noStrip(strip)) {
            return -2;
        }
        return noPhoto(strip, photo) ? -3 : cellsOf(seenBy(strip, photo));
    }

    public int coverage(int row, int column) {
        return outside(row, column) ? -1 : seen(lines)[row][column];
    }

    private List<Integer> gaps(List<Line> of, int required) {
        int[][] seen = seen(of);
        List<Integer> gaps = new ArrayList<>();
        for (int r = 0; r < seen.length; r++) {
            for (int c = 0; c < seen[0].length; c++) {
                if (seen[r][c] < required) {
                    gaps.add(100 * r + c);
                }
            }
        }
        return gaps;
    }

    public int gapCount(int required) {
        return badRequired(required) ? -4 : gaps(lines, required).size();
    }

    public int gapAt(int required, int k) {
        if (badRequired(required) || k < 0) {
            return -4;
        }
        List<Integer> gaps = gaps(lines, required);
        return k < gaps.size() ? gaps.get(k) : -6;
    }

    public int forwardOverlap(int strip, int photo) {
        if (noStrip(strip)) {
            return -2;
        }
        if (noPhoto(strip, photo) || photo == lines.get(strip).photos.size() - 1) {
            return -3;
        }
        return overlap(seenBy(strip, photo), seenBy(strip, photo + 1));
    }

    public int sideOverlap(int first, int second) {
        if (noStrip(first) || noStrip(second)) {
            return -2;
        }
        return overlap(seen(List.of(lines.get(first))), seen(List.of(lines.get(second))));
    }

    private List<Line> linesOf(int rowSpacing, int photoSpacing) {
        List<Line> plan = new ArrayList<>();
        for (int row = rowSpacing / 2; row < ground.length; row += rowSpacing) {
            plan.add(new Line(row, 0, ground[0].length - 1, photoSpacing));
        }
        return plan;
    }

    private Plan bestPlan(int required) {
        Plan best = null;
        for (int rowSpacing = 1; rowSpacing <= ground.length; rowSpacing++) {
            for (int photoSpacing = 1; photoSpacing <= ground[0].length; photoSpacing++) {
                List<Line> plan = linesOf(rowSpacing, photoSpacing);
                int photos = plan.size() * plan.get(0).photos.size();
                Plan found = new Plan(photos, rowSpacing, photoSpacing);
                if (plan.size() <= 8 && found.isBetterThan(best) && gaps(plan, required).isEmpty()) {
                    best = found;
                }
            }
        }
        return best;
    }

    public int planPhotos(int required) {
        if (badRequired(required)) {
            return -4;
        }
        Plan best = bestPlan(required);
        return best == null ? -6 : best.photos;
    }

    public int planRowSpacing(int required) {
        if (badRequired(required)) {
            return -4;
        }
        Plan best = bestPlan(required);
        return best == null ? -6 : best.rowSpacing;
    }

    public int planPhotoSpacing(int required) {
        if (badRequired(required)) {
            return -4;
        }
        Plan best = bestPlan(required);
        return best == null ? -6 : best.photoSpacing;
    }

    public int applyPlan(int required) {
        if (badRequired(required)) {
            return -4;
        }
        Plan best = bestPlan(required);
        if (best == null) {
            return -6;
        }
        lines = linesOf(best.rowSpacing, best.photoSpacing);
        return lines.size();
    }

    public int stripTime(int strip, boolean eastbound) {
        if (noStrip(strip)) {
            return -2;
        }
        Line line = lines.get(strip);
        return (line.last - line.first) * 1000 / (airspeed + (eastbound ? tailwind : -tailwind));
    }

    private int bestTime;
    private List<Integer> bestRoute = new ArrayList<>();

    /** Tries all routes, the ones that win a tie first. */
    private void fly(int row, int column, int time, List<Integer> route) {
        if (time >= bestTime) {
            return;
        }
        if (route.size() == lines.size()) {
            bestTime = time;
            bestRoute = new ArrayList<>(route);
            return;
        }
        for (int step = 0; step < 2 * lines.size(); step++) {
            int strip = step / 2;
            boolean east = step % 2 == 0;
            if (!route.contains(2 * strip) && !route.contains(2 * strip + 1)) {
                Line line = lines.get(strip);
                int enter = east ? line.first : line.last;
                int leave = east ? line.last : line.first;
                int way = Math.abs(line.row - row) + Math.abs(enter - column);
                route.add(step);
                fly(line.row, leave, time + way * 1000 / airspeed + turnTime + stripTime(strip, east), route);
                route.remove(route.size() - 1);
            }
        }
    }

    private void findRoute(int baseRow, int baseColumn) {
        bestTime = Integer.MAX_VALUE;
        fly(baseRow, baseColumn, 0, new ArrayList<>());
    }

    public int routeTime(int baseRow, int baseColumn) {
        if (outside(baseRow, baseColumn)) {
            return -1;
        }
        findRoute(baseRow, baseColumn);
        return bestTime;
    }

    public int routeStep(int baseRow, int baseColumn, int k) {
        if (outside(baseRow, baseColumn)) {
            return -1;
        }
        if (k < 0) {
            return -4;
        }
        findRoute(baseRow, baseColumn);
        return k < lines.size() ? bestRoute.get(k) : -6;
    }
}
