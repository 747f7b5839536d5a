/** Promise 8: setCrab. */
public final class Promise08SetCrabTest {
    public static void main(String[] args) {
        sets();
        range();
        answers();
        Due.end();
    }

    private static void sets() {
        Due.sentence("Sets the crab used in the visibility conditions.");
        Survey x = new Survey().with("addStrip", 2, 4, 4, 1);
        x.with("setCrab", 50).due(1, "seesCell", 0, 0, 4, 6).due(0, "seesCell", 0, 0, 4, 2);
        x.with("setCrab", -50).due(0, "seesCell", 0, 0, 4, 6).due(1, "seesCell", 0, 0, 4, 2);
        x.with("setCrab", 0).due(1, "seesCell", 0, 0, 4, 6).due(1, "seesCell", 0, 0, 4, 2);
    }

    private static void range() {
        Due.sentence("`crab`: from -100 to 100");
        for (int crab : Ints.range(-100, 100)) {
            new Survey().due(crab == 0 ? 0 : 1, "setCrab", crab).due(0, "setCrab", crab);
        }
        Survey x = new Survey().with("setCrab", -100).with("addStrip", 2, 4, 8, 2);
        for (int crab : Ints.outside(-100, 100)) {
            x.refused(-4, "setCrab", crab);
        }
        x.refused(-4, "setCrab", 101).refused(-4, "setCrab", -101);
    }

    private static void answers() {
        Due.sentence("Returns 1 if it changed, otherwise 0; BAD_VALUE.");
        new Survey().due(0, "setCrab", 0).due(1, "setCrab", 100).due(0, "setCrab", 100)
                .due(1, "setCrab", -100).due(-4, "setCrab", 101).due(0, "setCrab", -100)
                .due(1, "setCrab", 0).due(0, "setCrab", 0);
    }
}
