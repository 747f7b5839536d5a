/** Promise 7: setFields. */
public final class Promise07SetFieldsTest {
    public static void main(String[] args) {
        sets();
        alongRange();
        acrossRange();
        answers();
        Due.end();
    }

    private static void sets() {
        Due.sentence("Sets the fields of view used in the visibility conditions.");
        Survey x = new Survey().with("addStrip", 2, 4, 4, 1);
        x.with("setFields", 1, 2).due(0, "seesCell", 0, 0, 2, 6).due(1, "seesCell", 0, 0, 4, 4);
        x.with("setFields", 2, 1).due(1, "seesCell", 0, 0, 2, 6).due(0, "seesCell", 0, 0, 4, 4);
        x.with("setFields", 1, 1).due(9, "footprintSize", 0, 0);
        x.with("setFields", 50, 50).due(60, "footprintSize", 0, 0);
    }

    private static void alongRange() {
        Due.sentence("`along`: the along-track field (alongField), from 1 to 50");
        Survey x = new Survey().with("setFields", 7, 8).with("addStrip", 2, 4, 8, 2);
        for (int along : Ints.range(1, 50)) {
            x.copy().due(along == 7 ? 0 : 1, "setFields", along, 8).due(0, "setFields", along, 8);
        }
        for (int along : Ints.outside(1, 50)) {
            x.refused(-4, "setFields", along, 9);
        }
    }

    private static void acrossRange() {
        Due.sentence("`across`: the across-track field (acrossField), from 1 to 50");
        Survey x = new Survey().with("setFields", 7, 8).with("addStrip", 2, 4, 8, 2);
        for (int across : Ints.range(1, 50)) {
            x.copy().due(across == 8 ? 0 : 1, "setFields", 7, across).due(0, "setFields", 7, across);
        }
        for (int across : Ints.outside(1, 50)) {
            x.refused(-4, "setFields", 9, across);
        }
        x.refused(-4, "setFields", 0, 51).refused(-4, "setFields", 0, 0);
    }

    private static void answers() {
        Due.sentence("Returns 1 if at least one of both changed, otherwise 0; BAD_VALUE.");
        Survey x = new Survey().with("setFields", 4, 6);
        x.copy().due(0, "setFields", 4, 6);
        x.copy().due(1, "setFields", 5, 6).due(0, "setFields", 5, 6);
        x.copy().due(1, "setFields", 4, 5).due(0, "setFields", 4, 5);
        x.copy().due(1, "setFields", 6, 4).due(0, "setFields", 6, 4);
    }
}
