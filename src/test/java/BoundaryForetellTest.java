/** The boundaries of storms that are foretold, and asked for. */
public final class BoundaryForetellTest {
    public static void main(String[] args) {
        Due.sentence("Foretells storms for cells and hours, in place of before.", BoundaryForetellTest::inPlaceOfBefore);
        Due.sentence("to: the last one; not ahead of it in column or row", BoundaryForetellTest::notAhead);
        Due.sentence("from: the first cell of a rectangle", BoundaryForetellTest::allRectangles);
        Due.sentence("first: the first hour, that of now to 999", BoundaryForetellTest::firstHour);
        Due.sentence("last: the last one, first to 999", BoundaryForetellTest::lastHour);
        Due.sentence("for cells and hours", BoundaryForetellTest::justTheseHours);
        Due.sentence("storm: 0 to 9", BoundaryForetellTest::storms);
        Due.sentence("Returns how many cells that are.", BoundaryForetellTest::howManyCells);
        Due.sentence("Throws IndexOutOfBoundsException if there is no such cell, of either",
                BoundaryForetellTest::noSuchCell);
        Due.sentence("Throws IllegalArgumentException if to is ahead of from, or first, last or storm is out of range",
                BoundaryForetellTest::refusedInWhole);
        Due.sentence("hour: that of now to 999", BoundaryForetellTest::hoursAskedFor);
        Due.sentence("cell: 0 to 47", BoundaryForetellTest::cellsAskedFor);
        Due.end();
    }

    private static void inPlaceOfBefore() {
        Rescuemarket market = new Rescuemarket();
        market.foretell(0, 47, 0, 999, 9);
        market.foretell(9, 18, 10, 20, 0);
        int[][] due = {{9, 9, 9}, {9, 10, 0}, {18, 20, 0}, {18, 21, 9}, {8, 15, 9}, {19, 15, 9}, {1, 15, 9}, {25, 15, 9}};
        for (int[] row : due) {
            Due.is("cell " + row[0] + ", hour " + row[1], row[2], market.storm(row[0], row[1]));
        }
        market.foretell(9, 9, 10, 10, 9);
        Due.is("once more", 9, market.storm(9, 10));
        Due.is("the hour behind stays", 0, market.storm(9, 11));
        Due.is("the cell behind stays", 0, market.storm(10, 10));
    }

    private static void notAhead() {
        Rescuemarket market = new Rescuemarket();
        Due.is("the same cell", 1, market.foretell(9, 9, 0, 0, 1));
        Due.is("the next column", 2, market.foretell(9, 10, 0, 0, 1));
        Due.is("the next row", 2, market.foretell(9, 17, 0, 0, 1));
        Due.fails("a column ahead", Due.BAD_ARGUMENT, () -> market.foretell(9, 8, 0, 0, 1));
        Due.fails("a row ahead", Due.BAD_ARGUMENT, () -> market.foretell(9, 1, 0, 0, 1));
        Due.fails("a column ahead, a row behind", Due.BAD_ARGUMENT, () -> market.foretell(9, 16, 0, 0, 1));
        Due.fails("a row ahead, a column behind", Due.BAD_ARGUMENT, () -> market.foretell(9, 2, 0, 0, 1));
        Due.fails("both ahead", Due.BAD_ARGUMENT, () -> market.foretell(9, 0, 0, 0, 1));
        Due.fails("from the last to the first", Due.BAD_ARGUMENT, () -> market.foretell(47, 0, 0, 0, 1));
    }

    private static void allRectangles() {
        for (int from = 0; from < 48; from++) {
            for (int to = from; to < 48; to++) {
                int first = from;
                int last = to;
                int width = to % 8 - from % 8 + 1;
                int height = to / 8 - from / 8 + 1;
                Rescuemarket market = new Rescuemarket();
                if (width < 1) {
                    Due.fails(from + " to " + to, Due.BAD_ARGUMENT, () -> market.foretell(first, last, 0, 0, 1));
                } else {
                    Due.is(from + " to " + to, width * height, market.foretell(from, to, 0, 0, 1));
                }
                for (int cell = 0; cell < 48; cell++) {
                    boolean inside = cell % 8 >= from % 8 && cell % 8 <= to % 8 && cell / 8 >= from / 8 && cell / 8 <= to / 8;
                    Due.is(from + " to " + to + ", cell " + cell, inside ? 1 : 0, market.storm(cell, 0));
                }
            }
        }
    }

    private static void firstHour() {
        for (int now : new int[] {0, 1, 48, 998, 999}) {
            Rescuemarket market = Sea.atHour(now);
            Due.fails("the hour before now, " + now, Due.BAD_ARGUMENT, () -> market.foretell(0, 0, now - 1, 999, 1));
            Due.is("that of now, " + now, 1, market.foretell(0, 0, now, 999, 1));
            Due.is("it is foretold", 1, market.storm(0, now));
            Due.is("the last of all", 1, market.foretell(0, 0, 999, 999, 2));
            Due.is("it is foretold", 2, market.storm(0, 999));
            Due.fails("behind the last", Due.BAD_ARGUMENT, () -> market.foretell(0, 0, 1000, 999, 1));
            Due.fails("both behind the last", Due.BAD_ARGUMENT, () -> market.foretell(0, 0, 1000, 1000, 1));
        }
    }

    private static void lastHour() {
        Rescuemarket market = Sea.atHour(10);
        Due.fails("one less than first", Due.BAD_ARGUMENT, () -> market.foretell(0, 0, 20, 19, 1));
        Due.is("first itself", 1, market.foretell(0, 0, 20, 20, 1));
        Due.fails("one less than first, before now", Due.BAD_ARGUMENT, () -> market.foretell(0, 0, 10, 9, 1));
        Due.is("first itself, now", 1, market.foretell(0, 0, 10, 10, 1));
        Due.is("the last of all", 1, market.foretell(0, 0, 20, 999, 1));
        Due.fails("behind the last", Due.BAD_ARGUMENT, () -> market.foretell(0, 0, 20, 1000, 1));
        Due.fails("behind the last, from it", Due.BAD_ARGUMENT, () -> market.foretell(0, 0, 999, 1000, 1));
    }

    private static void justTheseHours() {
        int[][] spans = {{0, 0}, {0, 1}, {1, 15}, {15, 16}, {16, 31}, {17, 17}, {31, 32}, {998, 998}, {999, 999}, {5, 998}};
        for (int[] span : spans) {
            Rescuemarket market = new Rescuemarket();
            market.foretell(8, 8, span[0], span[1], 9);
            String when = span[0] + " to " + span[1];
            Due.is("its first of " + when, 9, market.storm(8, span[0]));
            Due.is("its last of " + when, 9, market.storm(8, span[1]));
            if (span[0] > 0) {
                Due.is("ahead of " + when, 0, market.storm(8, span[0] - 1));
            }
            if (span[1] < 999) {
                Due.is("behind " + when, 0, market.storm(8, span[1] + 1));
            }
            Due.is("the cell ahead, " + when, 0, market.storm(7, 999));
            Due.is("the cell behind, " + when, 0, market.storm(9, 0));
        }
    }

    private static void storms() {
        Rescuemarket market = new Rescuemarket();
        Due.fails("-1", Due.BAD_ARGUMENT, () -> market.foretell(0, 0, 0, 0, -1));
        Due.is("9", 1, market.foretell(0, 0, 0, 0, 9));
        Due.is("the greatest", 9, market.storm(0, 0));
        Due.is("0", 1, market.foretell(0, 0, 0, 0, 0));
        Due.is("the least", 0, market.storm(0, 0));
        Due.fails("10", Due.BAD_ARGUMENT, () -> market.foretell(0, 0, 0, 0, 10));
    }

    private static void howManyCells() {
        Rescuemarket market = new Rescuemarket();
        Due.is("the least", 1, market.foretell(47, 47, 0, 999, 1));
        Due.is("all", 48, market.foretell(0, 47, 0, 0, 1));
        Due.is("cells, not hours", 4, market.foretell(0, 9, 0, 999, 1));
        Due.is("also those foretold so before", 4, market.foretell(0, 9, 0, 999, 1));
    }

    private static void noSuchCell() {
        Rescuemarket market = new Rescuemarket();
        Due.fails("from -1", Due.NO_SUCH, () -> market.foretell(-1, 0, 0, 0, 1));
        Due.fails("from 48", Due.NO_SUCH, () -> market.foretell(48, 47, 0, 0, 1));
        Due.fails("to 48", Due.NO_SUCH, () -> market.foretell(47, 48, 0, 0, 1));
        Due.fails("to -1", Due.NO_SUCH, () -> market.foretell(0, -1, 0, 0, 1));
        Due.fails("both 48", Due.NO_SUCH, () -> market.foretell(48, 48, 0, 0, 1));
        Due.fails("both -1", Due.NO_SUCH, () -> market.foretell(-1, -1, 0, 0, 1));
    }

    private static void refusedInWhole() {
        Rescuemarket market = Sea.atHour(5);
        market.foretell(0, 47, 5, 999, 4);
        Due.fails("ahead", Due.BAD_ARGUMENT, () -> market.foretell(1, 8, 5, 999, 9));
        Due.fails("first", Due.BAD_ARGUMENT, () -> market.foretell(0, 47, 4, 999, 9));
        Due.fails("last", Due.BAD_ARGUMENT, () -> market.foretell(0, 47, 5, 1000, 9));
        Due.fails("storm", Due.BAD_ARGUMENT, () -> market.foretell(0, 47, 5, 999, 10));
        for (int cell = 0; cell < 48; cell++) {
            Due.is("now, cell " + cell, 4, market.storm(cell, 5));
            Due.is("the last hour, cell " + cell, 4, market.storm(cell, 999));
        }
    }

    private static void hoursAskedFor() {
        for (int now : new int[] {0, 1, 48, 998, 999}) {
            Rescuemarket market = new Rescuemarket();
            market.foretell(30, 30, 0, 999, 5);
            Sea.pass(market, now);
            Due.fails("before now, " + now, Due.BAD_ARGUMENT, () -> market.storm(30, now - 1));
            Due.is("that of now, " + now, 5, market.storm(30, now));
            Due.is("the last one", 5, market.storm(30, 999));
            Due.fails("behind the last", Due.BAD_ARGUMENT, () -> market.storm(30, 1000));
        }
    }

    private static void cellsAskedFor() {
        Rescuemarket market = new Rescuemarket();
        market.foretell(0, 0, 0, 0, 1);
        market.foretell(47, 47, 0, 0, 2);
        Due.fails("-1", Due.NO_SUCH, () -> market.storm(-1, 0));
        Due.is("0", 1, market.storm(0, 0));
        Due.is("47", 2, market.storm(47, 0));
        Due.fails("48", Due.NO_SUCH, () -> market.storm(48, 0));
    }
}
