import java.io.IOException;
import java.util.ArrayList;
import java.util.List;

/** 'What it is': what one survey does from the terrain to the route, and its 512 calls. */
public final class WhatItIsTest {
    public static void main(String[] args) throws IOException {
        fromTerrainToRoute();
        upToTheLastCall();
        Due.end();
    }

    private static void fromTerrainToRoute() {
        Due.sentence("A planner for aerial photo surveys. It stores a terrain as a grid of heights,"
                + " computes which grid cells each photo sees (field of view, crab and line of sight"
                + " over hills), reports coverage, gaps and overlaps, finds a regular flight plan"
                + " with the fewest photos, and finds the fastest order in which to fly the strips.");
        Survey x = new Survey().due(0, "setHeight", 2, 5, 700).due(700, "height", 2, 5);
        x.due(0, "addStrip", 2, 4, 9, 4).due(2, "photoCount", 0);
        // The field of view, the line of sight over the hill, and crab.
        x.due(1, "seesCell", 0, 0, 2, 1).due(0, "seesCell", 0, 0, 2, 0);
        x.due(0, "seesCell", 0, 0, 2, 7).due(1, "seesCell", 0, 1, 2, 7);
        x.due(1, "seesCell", 0, 0, 4, 2).with("setCrab", 40).due(0, "seesCell", 0, 0, 4, 2);
        x.with("setCrab", 0);
        x.due(0, "coverage", 0, 0).due(1, "coverage", 2, 7).due(2, "coverage", 0, 6);
        x.due(0, "gapAt", 1, 0).due(100, "gapAt", 1, 1);
        // 29 and 24 cells, 9 of them seen by both.
        x.due(29, "footprintSize", 0, 0).due(24, "footprintSize", 0, 1);
        x.due(37, "forwardOverlap", 0, 0).due(100, "sideOverlap", 0, 0);
        x.due(700, "setHeight", 2, 5, 0).due(4, "planPhotos", 1).due(2, "applyPlan", 1);
        x.due(0, "gapCount", 1);
        Routes.due(x, 5, 9, 340, 3, 0);
    }

    private static void upToTheLastCall() throws IOException {
        Due.sentence("An object is used for at most 512 calls after it has been made; what later"
                + " calls answer is free.");
        List<Document.Call> round = allExamples();
        Survey x = new Survey();
        for (int made = 0; made < Survey.MOST_CALLS; made++) {
            Document.Call call = round.get(made % round.size());
            x.due(call.answer, call.name, call.arguments);
        }
    }

    /** Calls that can be made again and again on one object: each example finds it as if new. */
    private static List<Document.Call> allExamples() throws IOException {
        List<Document.Call> round = new ArrayList<>();
        for (List<Document.Call> example : Document.examples()) {
            round.add(new Document.Call(60, "resize", 6, 10));
            round.addAll(example);
        }
        round.add(new Document.Call(1, "setSpeed", 100, 0, 60));
        // Example 3 narrows the fields, and example 4 does not need them.
        round.add(new Document.Call(1, "setFields", 3, 2));
        return round;
    }
}
