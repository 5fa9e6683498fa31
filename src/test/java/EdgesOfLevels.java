/** Rows of levels, closed and taken away. */
final class EdgesOfLevels {
    private static final String SHARED_OUT = "Closed, the sum m of the differences is shared out";

    private EdgesOfLevels() {
    }

    static void all(Edge edge) {
        farthestRows(edge);
        sharesRoundedDown(edge);
        sharesByLength(edge);
        greatestShares(edge);
        numbersOfRows(edge);
        rowsRefused(edge);
        sumAsTold(edge);
        closedRefuses(edge);
        open(edge);
    }

    /** Rows of these differences and lengths: a difference, its length, and so on. */
    private static StationRounds rows(int... a) {
        StationRounds x = new StationRounds();
        for (int i = 0; i + 1 < a.length; i += 2) {
            x.level(a[i], a[i + 1]);
        }
        return x;
    }

    private static String closedOf(StationRounds x) {
        StringBuilder closed = new StringBuilder();
        for (int i = 0, rows = x.count(4); i < rows; i++) {
            closed.append(i == 0 ? "" : " ").append(x.closed(i));
        }
        return closed.toString();
    }

    private static void farthestRows(Edge edge) {
        edge.sentence("Terms", "LEVEL LOOPS: rows, at most 12");
        for (int difference : new int[] {-100000, -99999, 0, 99999, 100000}) {
            edge.due("a difference of " + difference, difference, () -> rows(difference, 1).closed(-1));
        }
        for (int difference : new int[] {-100001, 100001, Integer.MIN_VALUE, Integer.MAX_VALUE}) {
            edge.idle("no difference of " + difference, Edge.ARGUMENT, Stands::ordinary,
                    x -> x.level(difference, 1));
        }
        edge.due("lengths of 1 and 10000", "0 0", () -> closedOf(rows(1, 1, 10000, 10000)));
        edge.due("lengths of 10000 and 1", "0 0", () -> closedOf(rows(10000, 10000, 1, 1)));
        for (int length : new int[] {0, -1, 10001, Integer.MIN_VALUE, Integer.MAX_VALUE}) {
            edge.idle("no length of " + length, Edge.ARGUMENT, Stands::ordinary, x -> x.level(1, length));
        }
        edge.due("one behind the other", "3 1 -4", () -> closedOf(rows(3, 1, 1, 1, -4, 1)));
    }

    private static void sharesRoundedDown(Edge edge) {
        edge.sentence("Terms", SHARED_OUT);
        edge.due("one row alone, the shortest", "0", () -> closedOf(rows(77, 1)));
        edge.due("one row alone, the longest", "0", () -> closedOf(rows(77, 10000)));
        edge.due("one row alone", "0", () -> closedOf(rows(77, 5)));
        edge.due("one row alone, below", "0", () -> closedOf(rows(-77, 5)));
        edge.due("nothing to share out", "5 -5", () -> closedOf(rows(5, 1, -5, 9)));
        edge.due("1 by thirds: shares 0, 0, 1", "1 0 -1", () -> closedOf(rows(1, 1, 0, 1, 0, 1)));
        edge.due("-1 by thirds: shares -1, 0, 0", "0 0 0", () -> closedOf(rows(-1, 1, 0, 1, 0, 1)));
        edge.due("-1 by thirds, told last", "1 0 -1", () -> closedOf(rows(0, 1, 0, 1, -1, 1)));
        edge.due("2 by thirds: shares 0, 1, 1", "2 -1 -1", () -> closedOf(rows(2, 1, 0, 1, 0, 1)));
        edge.due("-2 by thirds: shares -1, -1, 0", "-1 1 0", () -> closedOf(rows(-2, 1, 0, 1, 0, 1)));
        edge.due("3 by thirds: shares 1, 1, 1", "2 -1 -1", () -> closedOf(rows(3, 1, 0, 1, 0, 1)));
        edge.due("-3 by thirds: shares -1, -1, -1", "-2 1 1", () -> closedOf(rows(-3, 1, 0, 1, 0, 1)));
    }

    private static void sharesByLength(Edge edge) {
        edge.sentence("Terms", SHARED_OUT);
        edge.due("10 by 1, 2, 3: up to a row 1, 5, 10", "9 -4 -5", () -> closedOf(rows(10, 1, 0, 2, 0, 3)));
        edge.due("-10 by 1, 2, 3: up to a row -2, -5, -10", "-8 3 5", () -> closedOf(rows(-10, 1, 0, 2, 0, 3)));
        edge.due("10 by 3, 2, 1: up to a row 5, 8, 10", "5 -3 -2", () -> closedOf(rows(10, 3, 0, 2, 0, 1)));
        StationRounds x = rows(10, 1, 0, 2, 0, 3);
        x.level(-10, 6);
        edge.due("a row more, and nothing to share out", "10 0 0 -10", () -> closedOf(x));
        x.level(-12, 12);
        edge.due("a row more: up to a row -1, -2, -3, -6, -12", "11 1 1 -7 -6", () -> closedOf(x));
    }

    private static StationRounds twelve(int difference, int first, int others) {
        StationRounds x = new StationRounds();
        for (int i = 0; i < 12; i++) {
            x.level(difference, i == 0 ? first : others);
        }
        return x;
    }

    private static void greatestShares(Edge edge) {
        edge.sentence("Terms", SHARED_OUT);
        String zeros = "0 0 0 0 0 0 0 0 0 0 0 0";
        edge.due("the greatest sum by the greatest lengths", zeros, () -> closedOf(twelve(100000, 10000, 10000)));
        edge.due("the least sum by the greatest lengths", zeros, () -> closedOf(twelve(-100000, 10000, 10000)));
        edge.due("the greatest sum by the least lengths", zeros, () -> closedOf(twelve(100000, 1, 1)));
        edge.due("1200000/110001 is 10 and more", 99990, () -> twelve(100000, 1, 10000).closed(0));
        edge.due("-1200000/110001 is -11 and more", -99989, () -> twelve(-100000, 1, 10000).closed(0));
        edge.due("1200000 times 10000/10011", -1098681, () -> twelve(100000, 10000, 1).closed(0));
        edge.due("-1200000 times 10000/10011", 1098682, () -> twelve(-100000, 10000, 1).closed(0));
        edge.due("all that is shared out is the sum", 0, () -> {
            StationRounds x = twelve(-100000, 1, 9999);
            int all = 0;
            for (int i = 0; i < 12; i++) {
                all += x.closed(i);
            }
            return all;
        });
    }

    private static void numbersOfRows(Edge edge) {
        edge.sentence("Promise 13", "A row of levels behind the others: its number.");
        StationRounds x = new StationRounds();
        for (int i = 0; i < 12; i++) {
            int number = i;
            edge.due("row " + i, i, () -> x.level(number, 1));
            edge.due("so many with row " + i, i + 1, () -> x.count(4));
        }
        // 66 is shared out by halves of 11: 5 and 6 in turn.
        edge.due("one behind the other", "-5 -5 -3 -3 -1 -1 1 1 3 3 5 5", () -> closedOf(x));
        edge.sentence("Promise 13", "IllegalStateException: there are twelve.");
        edge.due("a thirteenth", Edge.STATE, () -> x.level(0, 1));
        edge.due("a thirteenth, wrong too", Edge.STATE, () -> x.level(100001, 0));
        edge.due("the twelfth is the last", 12, () -> x.count(4));
        edge.idle("a thirteenth, with all else full", Edge.STATE, Stands::full, z -> z.level(0, 1));
    }

    private static void rowsRefused(Edge edge) {
        edge.sentence("Promise 13", "IllegalArgumentException.");
        for (int wrong : new int[] {-100001, 100001, Integer.MIN_VALUE, Integer.MAX_VALUE}) {
            edge.idle("difference " + wrong, Edge.ARGUMENT, Stands::empty, x -> x.level(wrong, 10000));
        }
        for (int wrong : new int[] {0, -1, 10001, Integer.MIN_VALUE, Integer.MAX_VALUE}) {
            edge.idle("length " + wrong, Edge.ARGUMENT, Stands::empty, x -> x.level(-100000, wrong));
            edge.idle("length " + wrong + " and difference", Edge.ARGUMENT, Stands::empty,
                    x -> x.level(100001, wrong));
        }
        StationRounds x = rows(1, 1, 2, 2, 3, 3, 4, 4, 5, 5, 6, 6, 7, 7, 8, 8, 9, 9, 10, 10, 11, 11);
        edge.due("wrong while one more may come", Edge.ARGUMENT, () -> x.level(0, 0));
        edge.due("a refused row takes no number", 11, () -> x.level(0, 1));
    }

    private static void sumAsTold(Edge edge) {
        edge.sentence("Promise 14", "A row's difference, closed; row -1");
        edge.idle("the sum of none", 0, Stands::empty, x -> x.closed(-1));
        edge.due("the sum of one", -7, () -> rows(-7, 3).closed(-1));
        edge.idle("the sum of three", -8, Stands::ordinary, x -> x.closed(-1));
        edge.due("the greatest sum", 1200000, () -> twelve(100000, 1, 1).closed(-1));
        edge.due("the least sum", -1200000, () -> twelve(-100000, 10000, 1).closed(-1));
        edge.idle("a row closed stays told", 10 + 1, Stands::ordinary, x -> x.closed(0));
        StationRounds x = rows(4, 1, 4, 1);
        edge.due("closed", "0 0", () -> closedOf(x));
        edge.due("the sum as told, behind it", 8, () -> x.closed(-1));
        edge.due("the first row", 11, () -> Stands.ordinary().closed(0));
        edge.due("the last row", 7 + 7, () -> Stands.ordinary().closed(2));
    }

    private static void closedRefuses(Edge edge) {
        edge.sentence("Promise 14", "IndexOutOfBoundsException.");
        for (int row : new int[] {-2, 3, 12, Integer.MIN_VALUE, Integer.MAX_VALUE}) {
            edge.idle("row " + row, Edge.INDEX, Stands::ordinary, x -> x.closed(row));
            edge.idle("row " + row + " of none", Edge.INDEX, Stands::empty, x -> x.closed(row));
        }
        edge.idle("row 0 of none", Edge.INDEX, Stands::empty, x -> x.closed(0));
        edge.idle("row 12 of twelve", Edge.INDEX, Stands::full, x -> x.closed(12));
        edge.due("row 11 of twelve", 0, () -> twelve(5, 1, 1).closed(11));
    }

    private static void open(Edge edge) {
        edge.sentence("Promise 15", "Takes all rows of levels away: how many there were.");
        edge.idle("of none", 0, Stands::empty, x -> x.open());
        for (int i = 1; i <= 12; i++) {
            StationRounds x = new StationRounds();
            for (int k = 0; k < i; k++) {
                x.level(k, 1);
            }
            edge.due("of " + i, i, () -> x.open());
            edge.due("then there are none", 0, () -> x.count(4));
            edge.due("and no row 0", Edge.INDEX, () -> x.closed(0));
            edge.due("and no sum", 0, () -> x.closed(-1));
            edge.due("and none to take away", 0, () -> x.open());
        }
        StationRounds y = twelve(100000, 10000, 10000);
        y.open();
        for (int i = 0; i < 12; i++) {
            int number = i;
            edge.due("twelve may come again: row " + i, i, () -> y.level(number, 1));
        }
        edge.due("and no more", Edge.STATE, () -> y.level(0, 1));
        edge.due("of what was told since", 66, () -> y.closed(-1));
        edge.due("lengths are of what was told since, too", -5, () -> y.closed(0));
        edge.idle("all else stays", 12, Stands::full, x -> {
            int taken = x.open();
            for (int i = 0; i < 12; i++) {
                x.level(i * i - 50, 1 + 11 * i);
            }
            return taken;
        });
    }
}
