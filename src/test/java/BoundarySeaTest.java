/** The boundaries that the document names for the sea, its hours and its storms. */
public final class BoundarySeaTest {
    public static void main(String[] args) {
        Due.sentence("The sea has 8 columns and 6 rows of cells", BoundarySeaTest::columnsAndRows);
        Due.sentence("numbered by rows from 0 to 47", BoundarySeaTest::numberedByRows);
        Due.sentence("the way between two cells is the columns and the rows between them, together",
                BoundarySeaTest::ways);
        Due.sentence("Hours are counted from 0; it is the hour 0 at first.", BoundarySeaTest::hourZero);
        Due.sentence("For each cell and hour a storm is foretold, 0 to 9", BoundarySeaTest::storms);
        Due.sentence("0 at first", BoundarySeaTest::noStormsAtFirst);
        Due.sentence("what is foretold for the hour of now is what there is", BoundarySeaTest::stormOfNow);
        Due.sentence("No boats, no calls, no storms, the hour 0.", BoundarySeaTest::newObject);
        Due.end();
    }

    private static void columnsAndRows() {
        Rescuemarket market = new Rescuemarket();
        Due.is("the first row", 8, market.foretell(0, 7, 0, 0, 1));
        Due.is("the last row", 8, market.foretell(40, 47, 0, 0, 1));
        Due.is("the first column", 6, market.foretell(0, 40, 0, 0, 1));
        Due.is("the last column", 6, market.foretell(7, 47, 0, 0, 1));
        Due.is("all", 48, market.foretell(0, 47, 0, 0, 1));
    }

    private static void numberedByRows() {
        Rescuemarket market = new Rescuemarket();
        Due.fails("from a row's end to the next one's first", Due.BAD_ARGUMENT, () -> market.foretell(7, 8, 0, 0, 1));
        Due.is("a row's end and what is below", 2, market.foretell(7, 15, 0, 0, 3));
        Due.is("the row's end", 3, market.storm(7, 0));
        Due.is("below the row's end", 3, market.storm(15, 0));
        Due.is("not the next row's first", 0, market.storm(8, 0));
        Due.is("not the next row's last but one", 0, market.storm(14, 0));
        Due.fails("no cell is ahead of 0", Due.NO_SUCH, () -> market.storm(-1, 0));
        Due.fails("no cell is behind 47", Due.NO_SUCH, () -> market.storm(48, 0));
    }

    private static void ways() {
        for (int home = 0; home < 48; home++) {
            for (int cell = 0; cell < 48; cell++) {
                int due = Math.abs(home % 8 - cell % 8) + Math.abs(home / 8 - cell / 8);
                Due.is("way from " + home + " to " + cell, due, way(home, cell));
            }
        }
        Due.is("no way at all", 0, way(47, 47));
        Due.is("from a row's end to the next one's first", 8, way(7, 8));
        Due.is("from corner to corner", 12, way(0, 47));
        Due.is("from the other corner", 12, way(40, 7));
    }

    /** Found from the reward, which is 10 for each cell of the way. */
    private static int way(int home, int cell) {
        Rescuemarket market = new Rescuemarket();
        market.boat(0, home, 3, 100, 0);
        market.call(cell, 1, 9);
        market.pass(5);
        return (market.ofCall(0, 3) - 5) / 10;
    }

    private static void hourZero() {
        Rescuemarket market = new Rescuemarket();
        Due.is("the storm of hour 0", 0, market.storm(0, 0));
        Due.is("foretold for hour 0", 1, market.foretell(0, 0, 0, 0, 1));
        Due.fails("a call until the hour of now", Due.BAD_ARGUMENT, () -> market.call(0, 1, 0));
        Due.is("a call until the one behind", 0, market.call(0, 1, 1));
        Due.is("the one behind", 1, market.pass(1));
        Due.fails("the hour 0 is gone by", Due.BAD_ARGUMENT, () -> market.storm(0, 0));
    }

    private static void storms() {
        Rescuemarket market = new Rescuemarket();
        for (int storm = 0; storm <= 9; storm++) {
            market.foretell(storm, storm, 0, 999, storm);
            Due.is("storm " + storm, storm, market.storm(storm, 0));
            Due.is("storm " + storm + " in the last hour", storm, market.storm(storm, 999));
        }
        Due.fails("less than 0", Due.BAD_ARGUMENT, () -> market.foretell(0, 0, 0, 0, -1));
        Due.fails("more than 9", Due.BAD_ARGUMENT, () -> market.foretell(0, 0, 0, 0, 10));
    }

    private static void noStormsAtFirst() {
        for (int cell = 0; cell < 48; cell++) {
            Rescuemarket market = new Rescuemarket();
            for (int hour = 0; hour < 500; hour++) {
                Due.is("cell " + cell + ", hour " + hour, 0, market.storm(cell, hour));
            }
            Rescuemarket second = new Rescuemarket();
            for (int hour = 500; hour < 1000; hour++) {
                Due.is("cell " + cell + ", hour " + hour, 0, second.storm(cell, hour));
            }
        }
    }

    private static void stormOfNow() {
        Rescuemarket market = Sea.atHour(5);
        market.foretell(3, 3, 5, 5, 7);
        Due.is("what there is", 7, market.storm(3, 5));
        Due.is("the premium's first hour", 10.5f, market.premium(3));
        Rescuemarket other = Sea.outFor(2, 1, 10, 6);
        other.pass(1);
        other.foretell(2, 2, 3, 3, 6);
        other.pass(1);
        Due.callIs("the storm in the hour of arrival", other, 0, Rescuemarket.DONE);
    }

    private static void newObject() {
        Rescuemarket market = new Rescuemarket();
        Due.fails("no boat", Due.NO_SUCH, () -> market.ofBoat(0, 0));
        Due.fails("no boat to lend", Due.NO_SUCH, () -> market.lend(0, 0));
        Due.fails("no call", Due.NO_SUCH, () -> market.ofCall(0, 0));
        for (int cell = 0; cell < 48; cell++) {
            Due.is("neither storms nor calls in " + cell, 0.0f, market.premium(cell));
        }
        Due.gotAre("at first", market, 0, 0, 0);
        Due.is("all hours are to come", 48, market.pass(48));
    }
}
