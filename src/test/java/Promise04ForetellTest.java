/** Promise 4: foretell. */
public final class Promise04ForetellTest {
    public static void main(String[] args) {
        rectangles();
        hours();
        inPlaceOfBefore();
        wrong();
        order();
        Due.end();
    }

    private static void rectangles() {
        Rescuemarket market = new Rescuemarket();
        Due.is("two rows of three", 6, market.foretell(10, 20, 5, 6, 7));
        for (int cell = 0; cell < 48; cell++) {
            boolean inside = cell >= 10 && cell <= 12 || cell >= 18 && cell <= 20;
            Due.is("cell " + cell, inside ? 7 : 0, market.storm(cell, 5));
        }
        Due.is("one cell", 1, market.foretell(47, 47, 0, 0, 1));
        Due.is("one row", 8, market.foretell(0, 7, 0, 0, 1));
        Due.is("one column", 6, market.foretell(7, 47, 0, 0, 1));
        Due.is("all cells", 48, market.foretell(0, 47, 0, 999, 9));
        Due.is("the last of all", 9, market.storm(47, 999));
        Due.is("the first of all", 9, market.storm(0, 0));
    }

    private static void hours() {
        for (int first = 14; first < 19; first++) {
            for (int last = first; last < 36; last += 3) {
                Rescuemarket market = new Rescuemarket();
                market.foretell(8, 8, first, last, 9);
                for (int hour = 10; hour < 40; hour++) {
                    int due = hour >= first && hour <= last ? 9 : 0;
                    Due.is("hour " + hour + " of " + first + " to " + last, due, market.storm(8, hour));
                }
                Due.is("the cell before", 0, market.storm(7, 999));
                Due.is("the cell behind", 0, market.storm(9, 0));
            }
        }
    }

    private static void inPlaceOfBefore() {
        Rescuemarket market = new Rescuemarket();
        market.foretell(0, 47, 0, 999, 9);
        market.foretell(9, 9, 100, 200, 6);
        market.foretell(9, 9, 150, 160, 0);
        int[] hours = {99, 100, 149, 150, 160, 161, 200, 201};
        int[] storms = {9, 6, 6, 0, 0, 6, 6, 9};
        for (int i = 0; i < hours.length; i++) {
            Due.is("hour " + hours[i], storms[i], market.storm(9, hours[i]));
        }
        market.pass(48);
        Due.is("foretold for now", 1, market.foretell(9, 9, 48, 48, 3));
        Due.is("it is what there is", 3, market.storm(9, 48));
        Due.is("the hour behind", 9, market.storm(9, 49));
    }

    private static void wrong() {
        Rescuemarket market = new Rescuemarket();
        market.pass(3);
        Due.changesNothing("no such cell", market, Due.NO_SUCH,
                () -> market.foretell(-1, 0, 3, 999, 9),
                () -> market.foretell(48, 48, 3, 999, 9),
                () -> market.foretell(0, 48, 3, 999, 9),
                () -> market.foretell(0, -1, 3, 999, 9),
                () -> market.foretell(Integer.MIN_VALUE, Integer.MAX_VALUE, 3, 999, 9));
        Due.changesNothing("out of range", market, Due.BAD_ARGUMENT,
                () -> market.foretell(1, 0, 3, 999, 9),
                () -> market.foretell(1, 8, 3, 999, 9),
                () -> market.foretell(8, 7, 3, 999, 9),
                () -> market.foretell(0, 0, 2, 999, 9),
                () -> market.foretell(0, 0, -1, 999, 9),
                () -> market.foretell(0, 0, 1000, 1000, 9),
                () -> market.foretell(0, 0, 3, 1000, 9),
                () -> market.foretell(0, 0, 5, 4, 9),
                () -> market.foretell(0, 0, 3, 999, 10),
                () -> market.foretell(0, 0, 3, 999, -1),
                () -> market.foretell(0, 0, Integer.MAX_VALUE, Integer.MIN_VALUE, Integer.MAX_VALUE));
    }

    private static void order() {
        Rescuemarket market = new Rescuemarket();
        Due.changesNothing("the index is first", market, Due.NO_SUCH,
                () -> market.foretell(48, 0, 0, 0, 0),
                () -> market.foretell(0, 48, 0, 1000, 0),
                () -> market.foretell(0, 48, -1, -2, 10));
    }
}
