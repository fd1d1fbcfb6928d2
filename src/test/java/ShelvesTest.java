/** Promises 36 to 42. */
public final class ShelvesTest {
    private static final int BAD = NineOpinions.BAD;
    private static final long NONE = Long.MIN_VALUE;

    public static void main(String[] args) {
        keeping();
        rows();
        lowestBits();
        refusedPlaces();
        shifting();
        refusedShifts();
        taking();
        counting();
        Check.end("ShelvesTest");
    }

    private static void keeping() {
        NineOpinions x = new NineOpinions();
        Check.due(36, "no such VIEW", x.keep(0, 0), BAD);
        Check.due(36, "keep(0, -2)", x.keep(0, -2), BAD);
        Check.due(36, "nothing on nothing", x.keep(0, -1), 1);
        x.body(3);
        Check.due(36, "keep(5, 0)", x.keep(5, 0), 1);
        Check.due(36, "a VIEW is there", x.taken(5, 0), 3);
        Check.due(36, "keep(6, 0)", x.keep(6, 0), BAD);
        Check.due(36, "keep(-1, -1)", x.keep(-1, -1), BAD);
        Check.due(36, "keep(5, 1)", x.keep(5, 1), BAD);
        Check.due(36, "BAD changes nothing", x.taken(5, 0), 3);
        x.row(5, 0, 1);
        Check.due(36, "a ROW instead", x.put(5, 0, 1), 1);
        Check.due(36, "the VIEW is there no more", x.taken(5, 0), -12);
        Check.due(36, "a VIEW instead", x.keep(5, 0), 1);
        Check.due(36, "no ROW is there", x.put(5, 0, 1), -12);
        Check.due(36, "nothing instead", x.keep(5, -1), 1);
        Check.due(36, "nothing is there", x.put(5, 0, 1), -11);
    }

    private static void rows() {
        NineOpinions x = new NineOpinions();
        int[][] wrong = {{6, 0, 1}, {-1, 0, 1}, {0, 5, 1}, {0, -1, 1}, {0, 0, 61}, {6, 0, -1}, {0, 5, -1}};
        for (int[] call : wrong) {
            Check.due(37, "row(" + call[0] + ", " + call[1] + ", " + call[2] + ")",
                x.row(call[0], call[1], call[2]), BAD);
        }
        Check.due(37, "row(0, 0, -1)", x.row(0, 0, -1), -14);
        Check.due(37, "row(0, 4, MIN)", x.row(0, 4, Integer.MIN_VALUE), -14);
        Check.due(37, "nothing is there yet", x.put(0, 0, 1), -11);
        for (int sort = 0; sort <= 4; sort++) {
            Check.due(37, "row(sort, sort, 60)", x.row(sort, sort, 60), 1);
            for (int i = 0; i < 60; i += 2) {
                Check.due(37, "0 at first", x.element(sort, i), 0);
                x.put(sort, i + 1, -1);
            }
        }
        Check.due(37, "a ROW anew", x.row(3, 3, 60), 1);
        Check.due(37, "0 again", x.element(3, 59), 0);
        Check.due(37, "one of none", x.row(3, 2, 0), 1);
        Check.due(37, "it has no places", x.put(3, 0, 1), -13);
    }

    private static void lowestBits() {
        NineOpinions x = new NineOpinions();
        long[] values = {0, 1, -1, 127, 128, 255, 256, 32767, 32768, 65536, 2147483647L, 2147483648L, 1L << 40,
            Long.MAX_VALUE, Long.MIN_VALUE};
        for (int sort = 0; sort <= 4; sort++) {
            x.row(0, sort, 1);
            for (long v : values) {
                long due = sort == 0 ? (byte) v : sort == 1 ? (short) v : sort == 2 ? (int) v : sort == 3 ? v
                    : v == 0 ? 0 : 1;
                Check.due(38, "put(0, 0, " + v + ")", x.put(0, 0, v), 1);
                Check.due(39, "element of sort " + sort + " behind " + v, x.element(0, 0), due);
            }
        }
    }

    private static void refusedPlaces() {
        NineOpinions x = new NineOpinions();
        x.row(1, 3, 5);
        x.keep(2, x.body(0));
        int[][] calls = {
            {-1, 0, BAD}, {6, 0, BAD}, {0, 0, -11}, {0, -1, -11}, {2, 0, -12}, {2, -1, -12}, {1, -1, -13}, {1, 5, -13},
            {1, Integer.MAX_VALUE, -13}, {1, Integer.MIN_VALUE, -13},
        };
        for (int[] call : calls) {
            Check.due(38, "put(" + call[0] + ", " + call[1] + ", 9)", x.put(call[0], call[1], 9), call[2]);
            Check.due(39, "element(" + call[0] + ", " + call[1] + ")", x.element(call[0], call[1]), NONE);
        }
        Check.due(38, "put(1, 4, 9)", x.put(1, 4, 9), 1);
        Check.due(39, "element(1, 4)", x.element(1, 4), 9);
        Check.due(39, "element(1, 3)", x.element(1, 3), 0);
    }

    private static void elements(NineOpinions x, int shelf, long... due) {
        for (int i = 0; i < due.length; i++) {
            Check.due(40, "element(" + shelf + ", " + i + ")", x.element(shelf, i), due[i]);
        }
    }

    private static void shifting() {
        NineOpinions x = new NineOpinions();
        Say.row(x, 0, 1, 1, 2, 3, 4, 5);
        Say.row(x, 1, 1, 6, 7, 8);
        Check.due(40, "to another one", x.shift(0, 1, 1, 0, 2), 2);
        elements(x, 1, 2, 3, 8);
        elements(x, 0, 1, 2, 3, 4, 5);
        Check.due(40, "up the same", x.shift(0, 0, 0, 1, 4), 4);
        elements(x, 0, 1, 1, 2, 3, 4);
        Check.due(40, "down the same", x.shift(0, 1, 0, 0, 4), 4);
        elements(x, 0, 1, 2, 3, 4, 4);
        Check.due(40, "none", x.shift(0, 5, 1, 3, 0), 0);
        Check.due(40, "all", x.shift(1, 0, 0, 2, 3), 3);
        elements(x, 0, 1, 2, 2, 3, 8);
    }

    private static void refusedShifts() {
        NineOpinions x = new NineOpinions();
        Say.row(x, 0, 1, 1, 2, 3);
        Say.row(x, 1, 2, 1, 2, 3);
        Say.row(x, 2, 1, 4, 5);
        x.keep(3, x.body(0));
        int[][] calls = {
            {-1, 0, 0, 0, 1, BAD}, {0, 0, 6, 0, 1, BAD}, {6, 0, 4, 0, 1, BAD}, {0, 0, 4, 0, 1, -11}, {4, 0, 0, 0, 1, -11},
            {3, 0, 4, 0, 1, -11}, {4, 9, 4, 9, 9, -11}, {3, 0, 0, 0, 1, -12}, {0, 0, 3, 0, 1, -12}, {3, 0, 3, 0, 1, -12},
            {0, 0, 1, 0, 1, -12}, {0, 9, 1, 9, 9, -12}, {0, -1, 2, 0, 1, -13}, {0, 0, 2, -1, 1, -13},
            {0, 0, 2, 0, 3, -13}, {0, 2, 2, 0, 2, -13}, {0, 4, 2, 0, 0, -13}, {0, 0, 2, 3, 0, -13}, {0, 0, 2, 0, -1, -13},
            {0, Integer.MAX_VALUE, 2, 0, Integer.MAX_VALUE, -13}, {0, 1, 2, 1, Integer.MAX_VALUE, -13},
        };
        for (int[] c : calls) {
            Check.due(40, "shift(" + c[0] + ", " + c[1] + ", " + c[2] + ", " + c[3] + ", " + c[4] + ")",
                x.shift(c[0], c[1], c[2], c[3], c[4]), c[5]);
        }
        elements(x, 0, 1, 2, 3);
        elements(x, 2, 4, 5);
    }

    private static void taking() {
        // a KIND's own line up to VIEW, as bits
        int[] above = {1, 1 | 2, 1 | 4, 1 | 4 | 8, 1 | 2 | 16, 1 | 4 | 8 | 32, 1 | 64, 1 | 2 | 16 | 128};
        NineOpinions x = new NineOpinions();
        for (int kind = 0; kind < 8; kind++) {
            x.keep(0, x.body(kind));
            for (int k = 0; k < 8; k++) {
                Check.due(41, "taken(0, " + k + ") of KIND " + kind, x.taken(0, k), (above[kind] >> k & 1) == 1 ? kind : -12);
            }
        }
        x.row(1, 0, 3);
        Check.due(41, "a ROW", x.taken(1, 0), -12);
        Check.due(41, "nothing", x.taken(2, 0), -11);
        Check.due(41, "taken(0, 8)", x.taken(0, 8), BAD);
        Check.due(41, "taken(2, -1)", x.taken(2, -1), BAD);
        Check.due(41, "taken(6, 0)", x.taken(6, 0), BAD);
        Check.due(41, "taken(-1, 0)", x.taken(-1, 0), BAD);
    }

    private static void counting() {
        NineOpinions x = Say.written(Say.town(1, 2, 3), 4, 5);
        x.feed('d');
        x.mend(0, 1, 2);
        x.body(0);
        x.body(0);
        x.act(0, 3, 1);
        int[] due = {3, 2, 1, 1, 2, 4};
        for (int what = 0; what <= 5; what++) {
            Check.due(42, "count(" + what + ")", x.count(what), due[what]);
        }
        Check.due(42, "count(-1)", x.count(-1), BAD);
        Check.due(42, "count(6)", x.count(6), BAD);
    }
}
