/** 'Description', the paragraph on coverage. */
public final class DescriptionCoverageTest {
    public static void main(String[] args) {
        coverageCountsPhotos();
        gapsAreBelow();
        Due.end();
    }

    private static void coverageCountsPhotos() {
        Due.sentence("Coverage. The coverage of a cell is the number of photos of all strips that"
                + " see it.");
        // Two equal strips count twice, and each photo of a strip counts.
        Survey x = new Survey().due(0, "coverage", 2, 4);
        x.with("addStrip", 2, 3, 5, 1).due(3, "coverage", 2, 4);
        x.with("addStrip", 2, 3, 5, 1).due(6, "coverage", 2, 4);
        x.with("addStrip", 2, 9, 9, 1).due(6, "coverage", 2, 4);
        x.with("addStrip", 0, 4, 4, 1).due(7, "coverage", 2, 4);
        x.due(2, "coverage", 2, 0).due(0, "coverage", 5, 0);
    }

    private static void gapsAreBelow() {
        Due.sentence("A gap for a required coverage is a cell whose coverage is less than"
                + " required.");
        // Rows 0 to 4 of columns 1 to 7 are seen once, then twice.
        Survey x = new Survey().with("addStrip", 2, 4, 4, 1);
        x.due(25, "gapCount", 1).due(60, "gapCount", 2);
        x.with("addStrip", 2, 4, 4, 1);
        x.due(25, "gapCount", 1).due(25, "gapCount", 2).due(60, "gapCount", 3);
    }
}
