/** Objects that stand in known states, for the tests to begin with. */
final class Stands {
    static final int[][] CORNERS = {{1000, 1000}, {-1000, 1000}, {-1000, -1000}, {1000, -1000}};

    private Stands() {
    }

    /** Four marks at the corners of a square about 0, each observed where it is; none of them misses. */
    static StationRounds square() {
        return skewSquare(0, 0);
    }

    /**
     * The same square, but the marks are moved by x, y there and back in turn: no turn, scale or shift
     * can follow that, so all four miss by x, y or by -x, -y.
     */
    static StationRounds skewSquare(int x, int y) {
        StationRounds square = new StationRounds();
        for (int i = 0; i < CORNERS.length; i++) {
            int way = i % 2 == 0 ? 1 : -1;
            square.mark(CORNERS[i][0] + way * x, CORNERS[i][1] + way * y, 0);
            square.observe(i, CORNERS[i][0], CORNERS[i][1], 0);
        }
        return square;
    }

    /** One mark, observed so many times, one millimetre apart. */
    static StationRounds withObservations(int many) {
        StationRounds x = new StationRounds();
        x.mark(0, 0, 0);
        for (int i = 0; i < many; i++) {
            x.observe(0, i, 0, 0);
        }
        return x;
    }

    /** Marks 0 and 1 observed (0 and 1) where they are: set up, a place is what it is told by. */
    static StationRounds straight() {
        StationRounds x = new StationRounds();
        x.mark(0, 0, 0);
        x.mark(1000, 0, 0);
        x.observe(0, 0, 0, 0);
        x.observe(1, 1000, 0, 0);
        return x;
    }

    static StationRounds empty() {
        return new StationRounds();
    }

    /** Some of everything, but never set up. */
    static StationRounds bare() {
        StationRounds x = new StationRounds();
        x.mark(100, -200, 300);
        x.mark(-4000, 500, -60);
        x.mark(70, 8000, 9);
        x.observe(0, 10, 20, 30);
        x.observe(1, -4000, 50, 6);
        x.observe(2, 7, 8000, 9);
        x.observe(2, 9, 8011, 12);
        x.prism(1, 1500);
        x.use(3, false);
        x.point(1, 2, 3);
        x.point(-400, 500, -600);
        x.level(10, 3);
        x.level(-25, 4);
        write(x, "1 20 -30 40;0 7 8 9");
        return x;
    }

    /** Some of everything, and a set-up that another set-up would change in every part. */
    static StationRounds ordinary() {
        StationRounds x = bare();
        x.setUp();
        x.prism(0, 77);
        x.use(3, true);
        x.use(2, false);
        x.observe(1, -3900, 40, 16);
        x.level(7, 10000);
        return x;
    }

    /** As many of everything as there may be, and set up. */
    static StationRounds full() {
        StationRounds x = fullPad();
        for (int i = 1; i < 12; i++) {
            x.mark(900 * i - 5000, i * i * 50, -i);
        }
        for (int i = 0; i < 20; i++) {
            x.observe(i % 12, i * i * 27, 5000 - 880 * (i % 12), i);
        }
        x.prism(19, 3000);
        x.use(18, false);
        x.setUp();
        x.use(17, false);
        for (int i = 0; i < 30; i++) {
            x.point(300 * i, -i * i, 7 * i);
        }
        for (int i = 0; i < 12; i++) {
            x.level(i * i - 50, 1 + 11 * i);
        }
        return x;
    }

    /** One mark, and a pad of 200 signs: ten good rows. */
    static StationRounds fullPad() {
        StationRounds x = new StationRounds();
        x.mark(-5000, 3, 4);
        for (int i = 0; i < 10; i++) {
            write(x, "0 -" + (1000 + i) + " 10000 0100" + i + ";");
        }
        return x;
    }

    static int packed(String text, int from) {
        int bits = 0;
        for (int i = 0; i < 4 && from + i < text.length(); i++) {
            bits |= text.charAt(from + i) << 8 * i;
        }
        return bits;
    }

    static void write(StationRounds x, String text) {
        for (int i = 0; i < text.length(); i += 8) {
            x.unit(packed(text, i), packed(text, i + 4));
        }
    }

    /** Writes a text behind what the pad holds, and reads the pad. */
    static int readOf(StationRounds x, String text) {
        write(x, text);
        return x.read();
    }
}
