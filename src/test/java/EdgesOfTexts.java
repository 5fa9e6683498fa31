/** The pad's signs, and its rows that become observations. */
final class EdgesOfTexts {
    private static final String SIGNS = "0123456789- ;";
    private static final String READS = "The pad's rows become observations, all or none";
    private static final int ZEROS = 0x30303030;

    private EdgesOfTexts() {
    }

    static void all(Edge edge) {
        whichSigns(edge);
        howManySigns(edge);
        rowsOfFourNumbers(edge);
        rowsEnd(edge);
        oneSpaceBetween(edge);
        digitsOfNumbers(edge);
        minusAhead(edge);
        lowestBitsFirst(edge);
        noneIsNoSign(edge);
        tooManySigns(edge);
        wrongSigns(edge);
        readsHowMany(edge);
        firstWrongRow(edge);
        marksOfRows(edge);
        numbersAsObserved(edge);
        moreThanTwenty(edge);
        allOrNone(edge);
        padIsEmptyThen(edge);
    }

    /** Marks 0 to 2, and nothing else. */
    private static StationRounds threeMarks() {
        StationRounds x = new StationRounds();
        x.mark(100, 200, 300);
        x.mark(-100, 5, 6);
        x.mark(7, 8, 9);
        return x;
    }

    private static void good(Edge edge, String text, int rows) {
        StationRounds x = threeMarks();
        edge.due("'" + text + "'", rows, () -> Stands.readOf(x, text));
        edge.due("observations of '" + text + "'", rows, () -> x.count(1));
    }

    /** A text that is wrong in a row: nothing comes of it, and the pad is empty then, as it was before. */
    private static void wrong(Edge edge, String text, int row) {
        edge.idle("'" + text + "'", -1 - row, EdgesOfTexts::threeMarks, x -> Stands.readOf(x, text));
    }

    /** What a text's only row comes to: the mark is told by its x, as it misses at u 0. */
    private static String seenOf(String text) {
        StationRounds x = Stands.straight();
        x.mark(5, 0, 0);
        Stands.readOf(x, text);
        x.use(2, false);
        x.setUp();
        return x.residual(2, 0) + " " + x.residual(2, 1) + " " + x.residual(2, 2);
    }

    private static void whichSigns(Edge edge) {
        edge.sentence("Terms", "TEXTS: the pad is a row of at most 200 signs");
        for (int sign = 1; sign < 256; sign++) {
            boolean good = SIGNS.indexOf(sign) >= 0;
            for (int place = 0; place < 8; place++) {
                int a = place < 4 ? sign << 8 * place : 0;
                int b = place < 4 ? 0 : sign << 8 * (place - 4);
                StationRounds x = new StationRounds();
                edge.due("sign " + sign + " at " + place, good ? "1" : Edge.ARGUMENT, () -> x.unit(a, b));
                edge.due("signs behind sign " + sign + " at " + place, good ? 1 : 0, () -> x.count(5));
            }
        }
    }

    private static void howManySigns(Edge edge) {
        edge.sentence("Terms", "TEXTS: the pad is a row of at most 200 signs");
        StationRounds x = new StationRounds();
        for (int i = 1; i <= 200; i++) {
            int many = i;
            edge.due("sign by sign", many, () -> x.unit(0, '1' << 24));
        }
        edge.due("the sign behind the last", Edge.STATE, () -> x.unit('1', 0));
        edge.due("the last of 200 is read, too", 10, () -> Stands.fullPad().read());
        String[] cut = {
            "0 10000 10000 010000", "0 -10000 -10000 0100", "00 -010000 -010000 1", "00 -010000 -010000 -",
            "000 -010000 -010000 ", "000000 -010000 -0100", "0 -10000 -010000 10 ", "                    ",
        };
        for (String last : cut) {
            StationRounds y = new StationRounds();
            y.mark(0, 0, 0);
            Stands.write(y, "0 10000 10000 10000;".repeat(9) + last);
            edge.due("200 signs with '" + last + "'", 200, () -> y.count(5));
            edge.due("200 signs end with '" + last + "'", -10, () -> y.read());
        }
    }

    private static void rowsOfFourNumbers(Edge edge) {
        edge.sentence("Terms", "It is rows, each one ended by ';'");
        good(edge, "0 1 2 3;", 1);
        good(edge, "0 1 2 3;1 4 5 6;2 7 8 9;", 3);
        wrong(edge, ";", 0);
        wrong(edge, "0;", 0);
        wrong(edge, "0 1;", 0);
        wrong(edge, "0 1 2;", 0);
        wrong(edge, "0 1 2 3 4;", 0);
        wrong(edge, "0 1 2 3;;", 1);
        wrong(edge, ";0 1 2 3;", 0);
        wrong(edge, "0 1;2 3;", 0);
        wrong(edge, "0 1 2;3;", 0);
        wrong(edge, "0;1;2;3;", 0);
        edge.due("a mark's number, u, v, w", "5 0 0", () -> seenOf("2 0 0 0;"));
        edge.due("u is the second", "4 0 0", () -> seenOf("2 1 0 0;"));
        edge.due("v is the third", "5 -2 0", () -> seenOf("2 0 2 0;"));
        edge.due("w is the fourth", "5 0 -3", () -> seenOf("2 0 0 3;"));
        edge.due("mark 0 is another", "-7 0 0", () -> seenOf("0 7 0 0;"));
    }

    private static void rowsEnd(Edge edge) {
        edge.sentence("Terms", "It is rows, each one ended by ';'");
        wrong(edge, "0", 0);
        wrong(edge, "0 ", 0);
        wrong(edge, "0 1 2", 0);
        wrong(edge, "0 1 2 ", 0);
        wrong(edge, "0 1 2 -", 0);
        wrong(edge, "0 1 2 3", 0);
        wrong(edge, "0 1 2 3 ", 0);
        wrong(edge, "0 1 2 3;0", 1);
        wrong(edge, "0 1 2 3;0 1 2 3", 1);
        wrong(edge, "0 1 2 3; ", 1);
        wrong(edge, "0 1 2 3;-", 1);
        wrong(edge, "0 1 2 000003", 0);
    }

    private static void oneSpaceBetween(Edge edge) {
        edge.sentence("Terms", "It is rows, each one ended by ';'");
        wrong(edge, " 0 1 2 3;", 0);
        wrong(edge, "0  1 2 3;", 0);
        wrong(edge, "0 1  2 3;", 0);
        wrong(edge, "0 1 2  3;", 0);
        wrong(edge, "0 1 2 3 ;", 0);
        wrong(edge, "0 1 2 3; 0 1 2 3;", 1);
        wrong(edge, "0123;", 0);
        wrong(edge, "0-1-2-3;", 0);
        wrong(edge, " ;", 0);
        wrong(edge, "   ;", 0);
    }

    private static void digitsOfNumbers(Edge edge) {
        edge.sentence("Terms", "A number is digits, '-' may be ahead");
        good(edge, "000002 1 2 3;", 1);
        good(edge, "2 000001 2 3;", 1);
        good(edge, "2 1 000002 3;", 1);
        good(edge, "2 1 2 000003;", 1);
        good(edge, "2 -010000 010000 -010000;", 1);
        wrong(edge, "0000002 1 2 3;", 0);
        wrong(edge, "2 0000001 2 3;", 0);
        wrong(edge, "2 1 0000002 3;", 0);
        wrong(edge, "2 1 2 0000003;", 0);
        wrong(edge, "2 1 2 -0000003;", 0);
        wrong(edge, "0 0 0 00000000000000000000000000000000000000000000000000000000;", 0);
        // These are within bounds for one who lets numbers wrap around.
        wrong(edge, "4294967296 0 0 0;", 0);
        wrong(edge, "0 4294967297 0 0;", 0);
        edge.due("0s ahead", "-1 -20 -300", () -> seenOf("0 000001 000020 000300;"));
        edge.due("0s behind", "-10000 -100 -10", () -> seenOf("0 10000 100 10;"));
        edge.due("every digit, but five", "-1234 -6789 0", () -> seenOf("0 1234 6789 0;"));
        edge.due("five, and six digits", "0 0 -5", () -> seenOf("0 000000 0 000005;"));
    }

    private static void minusAhead(Edge edge) {
        edge.sentence("Terms", "A number is digits, '-' may be ahead");
        good(edge, "-0 -1 -2 -3;", 1);
        good(edge, "-000000 -000001 -000002 -000003;", 1);
        good(edge, "0 -0 -00 -000;", 1);
        wrong(edge, "- 1 2 3;", 0);
        wrong(edge, "0 - 2 3;", 0);
        wrong(edge, "0 1 - 3;", 0);
        wrong(edge, "0 1 2 -;", 0);
        wrong(edge, "0 --1 2 3;", 0);
        wrong(edge, "0 1- 2 3;", 0);
        wrong(edge, "0 1 2 3-;", 0);
        wrong(edge, "0 1-1 2 3;", 0);
        wrong(edge, "0 - 1 2 3;", 0);
        wrong(edge, "--0 1 2 3;", 0);
        edge.due("below 0", "1 20 300", () -> seenOf("0 -1 -20 -300;"));
        edge.due("-0 is 0", "5 0 0", () -> seenOf("2 -0 -000000 -00;"));
    }

    private static void lowestBitsFirst(Edge edge) {
        edge.sentence("Promise 16", "Signs come to the pad, the lowest eight bits first");
        StationRounds x = threeMarks();
        // '2 -1', ' 3 4' and ';', by their bits.
        edge.due("eight at once", 8, () -> x.unit(0x312D2032, 0x34203320));
        edge.due("one more", 9, () -> x.unit(0x3B, 0));
        edge.due("so many", 9, () -> x.count(5));
        edge.due("a row", 1, () -> x.read());
        edge.due("they are '2 -1 3 4;'", "6 -3 -4", () -> {
            StationRounds y = Stands.straight();
            y.mark(5, 0, 0);
            y.unit(0x312D2032, 0x34203320);
            y.unit(0x3B, 0);
            y.read();
            y.use(2, false);
            y.setUp();
            return y.residual(2, 0) + " " + y.residual(2, 1) + " " + y.residual(2, 2);
        });
        edge.due("the other way round it is no row", -1, () -> {
            StationRounds y = threeMarks();
            y.unit(0x34203320, 0x312D2032);
            y.unit(0x3B, 0);
            return y.read();
        });
    }

    private static void noneIsNoSign(Edge edge) {
        edge.sentence("Promise 16", "Signs come to the pad, the lowest eight bits first");
        edge.idle("none at all", 0, Stands::empty, x -> x.unit(0, 0));
        edge.idle("none to some", 19, Stands::ordinary, x -> x.unit(0, 0));
        edge.idle("none to a full pad", 200, Stands::fullPad, x -> x.unit(0, 0));
        StationRounds x = threeMarks();
        edge.due("0s between", 2, () -> x.unit(0x20000032, 0));
        edge.due("0s ahead", 3, () -> x.unit(0, 0x31000000));
        edge.due("0s behind", 4, () -> x.unit(0x20, 0));
        edge.due("0s all over", 6, () -> x.unit(0x00320000, 0x00002000));
        edge.due("the rest", 8, () -> x.unit(0x3B000033, 0));
        edge.due("'2 1 2 3;'", 1, () -> x.read());
    }

    private static StationRounds withSigns(int many) {
        StationRounds x = new StationRounds();
        Stands.write(x, "0".repeat(many));
        return x;
    }

    private static void tooManySigns(Edge edge) {
        edge.sentence("Promise 16", "IllegalStateException: there would be more than 200.");
        for (int i = 193; i <= 200; i++) {
            int before = i;
            int room = 200 - i;
            String fits = "1".repeat(room);
            String toomany = "1".repeat(room + 1);
            edge.due(room + " more", 200, () -> withSigns(before)
                    .unit(Stands.packed(fits, 0), Stands.packed(fits, 4)));
            edge.idle(room + 1 + " more, where " + room + " fit", Edge.STATE, () -> withSigns(before),
                    x -> x.unit(Stands.packed(toomany, 0), Stands.packed(toomany, 4)));
        }
        edge.due("eight more", 200, () -> withSigns(192).unit(ZEROS, ZEROS));
        edge.idle("a full pad", Edge.STATE, Stands::fullPad, x -> x.unit(0, '1' << 24));
        edge.idle("a full pad, the first sign alone", Edge.STATE, Stands::fullPad, x -> x.unit('1', 0));
        edge.idle("a full pad, eight", Edge.STATE, Stands::fullPad, x -> x.unit(ZEROS, ZEROS));
        edge.idle("a full pad, a wrong sign", Edge.STATE, Stands::fullPad, x -> x.unit('A', 0));
        edge.idle("a full pad, the highest sign", Edge.STATE, Stands::fullPad, x -> x.unit(0, 0xFF000000));
        edge.idle("two more, one wrong, where one fits", Edge.STATE, () -> withSigns(199), x -> x.unit('0', 'A'));
        StationRounds x = Stands.fullPad();
        x.read();
        edge.due("behind read() there is room again", 8, () -> x.unit(ZEROS, ZEROS));
    }

    private static void wrongSigns(Edge edge) {
        edge.sentence("Promise 16", "IllegalArgumentException: one is none of those.");
        for (int place = 0; place < 8; place++) {
            int a = place < 4 ? ZEROS + (0x11 << 8 * place) : ZEROS;
            int b = place < 4 ? ZEROS : ZEROS + (0x11 << 8 * (place - 4));
            edge.idle("'A' at " + place + " among good ones", Edge.ARGUMENT, Stands::ordinary, x -> x.unit(a, b));
        }
        for (int sign : new int[] {1, 31, 33, 44, 46, 47, 58, 60, 128, 160, 173, 176, 255}) {
            edge.idle("sign " + sign + " as the first", Edge.ARGUMENT, Stands::bare, x -> x.unit(sign, 0));
            edge.idle("sign " + sign + " as the last", Edge.ARGUMENT, Stands::bare, x -> x.unit(0, sign << 24));
        }
        edge.idle("all bits", Edge.ARGUMENT, Stands::empty, x -> x.unit(-1, -1));
        edge.idle("the least int", Edge.ARGUMENT, Stands::empty, x -> x.unit(Integer.MIN_VALUE, 0));
        edge.idle("the greatest int", Edge.ARGUMENT, Stands::empty, x -> x.unit(0, Integer.MAX_VALUE));
        edge.idle("one wrong, where one fits", Edge.ARGUMENT, () -> withSigns(199), x -> x.unit('A', 0));
        edge.idle("eight, one wrong, where eight fit", Edge.ARGUMENT, () -> withSigns(192),
                x -> x.unit(ZEROS, ZEROS + 0x11000000));
    }

    private static void readsHowMany(Edge edge) {
        edge.sentence("Promise 17", READS);
        edge.idle("an empty pad", 0, () -> {
            StationRounds x = Stands.ordinary();
            x.read();
            return x;
        }, x -> x.read());
        edge.idle("an empty pad of a new object", 0, Stands::empty, x -> x.read());
        edge.idle("an empty pad, twenty being told", 0, () -> Stands.withObservations(20), x -> x.read());
        for (int i = 1; i <= 20; i++) {
            int many = i;
            StationRounds x = threeMarks();
            edge.due(many + " rows", many, () -> Stands.readOf(x, "2 7 8 9;".repeat(many)));
            edge.due(many + " observations", many, () -> x.count(1));
            edge.due(many + " used ones", many, () -> x.count(2));
            edge.due("no signs behind " + many + " rows", 0, () -> x.count(5));
        }
        StationRounds x = Stands.bare();
        edge.due("behind those told", 2, () -> Stands.readOf(x, ";"));
        edge.due("numbered behind them", 0, () -> x.prism(5, 1));
        edge.due("none behind that", Edge.INDEX, () -> x.prism(6, 1));
        edge.due("read ones are used", false, () -> x.use(5, true));
        edge.due("the one left out before stays so", true, () -> x.use(3, true));
        StationRounds told = threeMarks();
        told.observe(2, -10000, 10000, 5);
        told.observe(1, 33, -44, -10000);
        StationRounds read = threeMarks();
        Stands.readOf(read, "2 -10000 10000 5;01 0033 -0044 -10000;");
        edge.due("as if told by observe()", "none", () -> Trace.difference(Trace.held(told), Trace.held(read)));
    }

    private static void firstWrongRow(Edge edge) {
        edge.sentence("Promise 17", READS);
        for (int good = 0; good < 20; good++) {
            wrong(edge, "2 7 8 9;".repeat(good) + ";", good);
            wrong(edge, "2 7 8 9;".repeat(good) + "3 7 8 9;", good);
            wrong(edge, "2 7 8 9;".repeat(good) + "2 7 8 9", good);
        }
        wrong(edge, "3 0 0 0;;", 0);
        wrong(edge, ";3 0 0 0;", 0);
        wrong(edge, "0 0 0 0;0 10001 0 0;0 0 0", 1);
        wrong(edge, "0 0 0 0;0 0 0;0 10001 0 0;", 1);
        wrong(edge, "0 0 0 0;1 0 0 0;0 0 0 10001;2 0 0 0;", 2);
    }

    private static void marksOfRows(Edge edge) {
        edge.sentence("Promise 17", READS);
        good(edge, "0 0 0 0;", 1);
        good(edge, "2 0 0 0;", 1);
        wrong(edge, "3 0 0 0;", 0);
        wrong(edge, "-1 0 0 0;", 0);
        wrong(edge, "12 0 0 0;", 0);
        wrong(edge, "999999 0 0 0;", 0);
        wrong(edge, "-999999 0 0 0;", 0);
        wrong(edge, "2 0 0 0;3 0 0 0;", 1);
        edge.due("no marks at all", -1, () -> Stands.readOf(new StationRounds(), "0 0 0 0;"));
        StationRounds x = Stands.full();
        edge.due("a full object", -1, () -> x.read());
        StationRounds y = new StationRounds();
        Stands.write(y, "0 1 2 3;1 4 5 6;");
        y.mark(0, 0, 0);
        y.mark(0, 0, 0);
        edge.due("marks told behind the signs", 2, () -> y.read());
        StationRounds z = new StationRounds();
        for (int i = 0; i < 12; i++) {
            z.mark(i, i, i);
        }
        edge.due("the last of twelve marks", 1, () -> Stands.readOf(z, "11 0 0 0;"));
        edge.due("the mark behind it", -1, () -> Stands.readOf(z, "12 0 0 0;"));
    }

    private static void numbersAsObserved(Edge edge) {
        edge.sentence("Promise 17", READS);
        String[] fitting = {"10000", "-10000", "010000", "-010000", "0"};
        for (String far : fitting) {
            good(edge, "1 " + far + " 0 0;", 1);
            good(edge, "1 0 " + far + " 0;", 1);
            good(edge, "1 0 0 " + far + ";", 1);
        }
        String[] tooFar = {"10001", "-10001", "010001", "-010001", "999999", "-999999", "100000"};
        for (String far : tooFar) {
            wrong(edge, "1 " + far + " 0 0;", 0);
            wrong(edge, "1 0 " + far + " 0;", 0);
            wrong(edge, "1 0 0 " + far + ";", 0);
            wrong(edge, "1 0 0 0;1 0 0 " + far + ";", 1);
        }
        edge.due("the farthest above", "-10000 -10000 -10000", () -> seenOf("0 10000 10000 10000;"));
        edge.due("the farthest below", "10000 10000 10000", () -> seenOf("0 -10000 -10000 -10000;"));
    }

    private static void moreThanTwenty(Edge edge) {
        edge.sentence("Promise 17", READS);
        String row = "0 1 1 1;";
        for (int i = 0; i <= 20; i++) {
            int before = i;
            int room = Math.min(20 - i, 24);
            edge.idle((room + 1) + " rows to " + before, -1 - room, () -> Stands.withObservations(before),
                    x -> Stands.readOf(x, row.repeat(room + 1)));
            edge.due(room + " rows to " + before, room,
                    () -> Stands.readOf(Stands.withObservations(before), row.repeat(room)));
        }
        edge.idle("twenty-five rows", -21, EdgesOfTexts::threeMarks, x -> Stands.readOf(x, row.repeat(25)));
        edge.idle("a wrong form ahead of the one too many", -1, () -> Stands.withObservations(19),
                x -> Stands.readOf(x, ";" + row + row));
        edge.idle("a wrong form behind the one too many", -2, () -> Stands.withObservations(19),
                x -> Stands.readOf(x, row + row + ";"));
        edge.idle("a wrong form, twenty being told", -1, () -> Stands.withObservations(20),
                x -> Stands.readOf(x, ";"));
    }

    private static void allOrNone(Edge edge) {
        edge.sentence("Promise 17", READS);
        edge.idle("some good rows and a wrong one", -3, () -> {
            StationRounds x = Stands.ordinary();
            x.read();
            return x;
        }, x -> Stands.readOf(x, "0 5 5 5;1 6 6 6;3 7 7 7;"));
        StationRounds x = threeMarks();
        edge.due("none of them", -3, () -> Stands.readOf(x, "0 5 5 5;1 6 6 6;3 7 7 7;"));
        edge.due("so none has a prism", Edge.INDEX, () -> x.prism(0, 1));
        edge.due("and the next is the first", 0, () -> x.observe(0, 1, 1, 1));
        edge.due("which is one alone", -1, () -> x.setUp());
        StationRounds y = Stands.straight();
        y.setUp();
        edge.due("a wrong row behind a set-up", -2, () -> Stands.readOf(y, "0 5 5 5;;"));
        edge.due("the set-up stays", 1000000L, () -> y.turned(0));
        edge.due("good rows behind a set-up", 2, () -> Stands.readOf(y, "0 5 5 5;1 6 6 6;"));
        edge.due("it stays, too", 1000000L, () -> y.turned(0));
        edge.due("the next set-up is by all", 4, () -> y.setUp());
    }

    private static void padIsEmptyThen(Edge edge) {
        edge.sentence("Promise 17", READS);
        StationRounds x = threeMarks();
        edge.due("good rows", 1, () -> Stands.readOf(x, "0 1 2 3;"));
        edge.due("no signs behind them", 0, () -> x.count(5));
        edge.due("so nothing is read twice", 0, () -> x.read());
        edge.due("a wrong row", -1, () -> Stands.readOf(x, "0 1 2 3"));
        edge.due("no signs behind it", 0, () -> x.count(5));
        edge.due("so it can't be ended later", -1, () -> Stands.readOf(x, ";"));
        edge.due("from the beginning again", 1, () -> x.unit('0', 0));
        edge.due("a row behind that sign", 1, () -> Stands.readOf(x, " 1 2 3;"));
        edge.due("a full pad of wrong signs", -1, () -> Stands.readOf(x, "-".repeat(200)));
        edge.due("no signs behind that", 0, () -> x.count(5));
    }
}
