import java.util.ArrayList;
import java.util.List;

/** The fastest route that is due, found by trying all routes. */
final class Routes {
    private final Survey survey;
    private final int[][] strips;
    private final int airspeed;
    private final int turnTime;
    private int fastest = Integer.MAX_VALUE;
    private List<Integer> route = List.of();

    /** The strips are {row, first, last}; their times are asked of the survey. */
    private Routes(Survey survey, int[][] strips, int airspeed, int turnTime) {
        this.survey = survey;
        this.strips = strips;
        this.airspeed = airspeed;
        this.turnTime = turnTime;
    }

    /** The time and the steps of the route from a base are these, and there are no more steps. */
    static void due(Survey x, int row, int column, int time, int... steps) {
        x.due(time, "routeTime", row, column);
        for (int k = 0; k < steps.length; k++) {
            x.due(steps[k], "routeStep", row, column, k);
        }
        x.due(-6, "routeStep", row, column, steps.length);
    }

    /** The same, with the route that is fastest among all. */
    static void dueByHand(int[][] strips, int airspeed, int tailwind, int turnTime, int row, int column) {
        Survey x = new Survey().with("setSpeed", airspeed, tailwind, turnTime);
        for (int[] s : strips) {
            x.with("addStrip", s[0], s[1], s[2], 1);
        }
        Routes routes = new Routes(x.copy(), strips, airspeed, turnTime);
        int[][] times = new int[strips.length][2];
        for (int strip = 0; strip < strips.length; strip++) {
            times[strip][0] = routes.survey.ask("stripTime", strip, true);
            times[strip][1] = routes.survey.ask("stripTime", strip, false);
        }
        routes.fly(times, row, column, 0, new ArrayList<>());
        due(x, row, column, routes.fastest,
                routes.route.stream().mapToInt(Integer::intValue).toArray());
    }

    /** Routes come in the order of their first difference, so a later one must be faster. */
    private void fly(int[][] times, int row, int column, int time, List<Integer> flown) {
        if (flown.size() == strips.length) {
            if (time < fastest) {
                fastest = time;
                route = new ArrayList<>(flown);
            }
            return;
        }
        for (int strip = 0; strip < strips.length; strip++) {
            for (int west = 0; west < 2; west++) {
                if (!flown.contains(2 * strip) && !flown.contains(2 * strip + 1)) {
                    int[] s = strips[strip];
                    int way = Math.abs(s[0] - row) + Math.abs(s[1 + west] - column);
                    int transfer = way * 1000 / airspeed + turnTime;
                    flown.add(2 * strip + west);
                    fly(times, s[0], s[2 - west], time + transfer + times[strip][west], flown);
                    flown.remove(flown.size() - 1);
                }
            }
        }
    }
}
