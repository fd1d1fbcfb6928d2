/** Acts and shelves: part 5 of the Terms, promises 33 to 42. */
final class ShelvesSentences {
    private static final int BAD = NineOpinions.BAD, FULL = NineOpinions.FULL;
    private static final int LOW = Check.LOW, HIGH = Check.HIGH;
    private static final int VIEW = 0, SHARED = 2, RUBBED = 3, CHILD = 5, STRANGER = 6, FOOT = 7;
    private static final int HOLDS = 0, MINDS = 1, TRADES = 2, TELLS = 3;
    private static final int BYTES = 0, SHORTS = 1, INTS = 2, LONGS = 3, BOOLEANS = 4;
    private static final long NONE = Long.MIN_VALUE;
    private static final int[] NO_SHELVES = {LOW, -1, 6, HIGH};

    private ShelvesSentences() {
    }

    static void look() {
        bodies();
        shelves();
        refusals();
        Sentence.ofPromise(33, "A VIEW of a KIND (0 .. 7) is kept: its number.", ShelvesSentences::kinds);
        Sentence.ofPromise(33, "BAD, FULL.", ShelvesSentences::bodyRefused);
        Sentence.ofPromise(34, "An ACT (0 .. 3) of a VIEW with x.", ShelvesSentences::fourActs);
        Sentence.ofPromise(34, "0, and no TRACE then: no such VIEW, ACT.", ShelvesSentences::noSuchAct);
        Sentence.ofPromise(35, "THE TRACE's i-th body. BAD.", ShelvesSentences::traceRefused);
        Sentence.ofPromise(36, "A SHELF holds nothing (body -1), or a VIEW: 1.", ShelvesSentences::keep);
        Sentence.ofPromise(36, "BAD.", ShelvesSentences::keepRefused);
        Sentence.ofPromise(37, "A SHELF holds a ROW: 1.", ShelvesSentences::row);
        Sentence.ofPromise(37, "BAD (sort, n above 60); -14.", ShelvesSentences::rowRefused);
        Sentence.ofPromise(38, "Element i of a ROW becomes v: 1.", ShelvesSentences::put);
        Sentence.ofPromise(38, "BAD, -11, -12, -13.", ShelvesSentences::putRefused);
        Sentence.ofPromise(39, "Element i of a ROW; Long.MIN_VALUE: BAD, -11 to -13.", ShelvesSentences::elementRefused);
        Sentence.ofPromise(40, "n elements of a ROW from i on come to another one (or the same) from j on, as they all were"
            + " before: n.", ShelvesSentences::shift);
        Sentence.ofPromise(40, "BAD, -11 (either), -12 (no ROWS, or of unlike sorts), -13.", ShelvesSentences::shiftRefused);
        Sentence.ofPromise(41, "What a SHELF holds, taken for a VIEW of KIND k (0 .. 7), or under it: its KIND.",
            ShelvesSentences::taken);
        Sentence.ofPromise(41, "BAD, -11, -12.", ShelvesSentences::takenRefused);
        Sentence.ofPromise(42, "How many: 0 PEOPLE, 1 LINES that stand, 2 bytes on THE TAPE, 3 changes that may be UNDONE,"
            + " 4 BODIES,", ShelvesSentences::count);
        Sentence.ofPromise(42, "5 bodies that ran in the latest act() (all, kept or not).", ShelvesSentences::countOfBodies);
        Sentence.ofPromise(42, "BAD.", ShelvesSentences::countRefused);
    }

    private static void bodies() {
        Sentence.ofTerms(5, "LINES' ways are kept by call as BODIES 0 .. 49,", ShelvesSentences::fiftyBodies);
        Sentence.ofTerms(5, "of KINDS: 0 VIEW; 1 DULL under VIEW; 2 SHARED under VIEW; 3 RUBBED under SHARED; 4 WALL under DULL;"
            + " 5 CHILD under RUBBED; 6 STRANGER under VIEW; 7 FOOT under WALL.", ShelvesSentences::taken);
        Sentence.ofTerms(5, "ACTS with x (an int that wraps): 0 holds, 1 minds, 2 trades, 3 tells; n its number.",
            ShelvesSentences::actsWrap);
        Sentence.ofTerms(5, "BODIES of acts: HOLDS (an interface of VIEW): 1 holds: x + n. VIEW: 10 minds: holds(x) * 2."
            + " 11 trades: x ^ n.", () -> actsOf(0, 0, HOLDS, MINDS, TRADES));
        Sentence.ofTerms(5, "TELLS (of VIEW): 2 tells: minds(x) - trades(1).", () -> actsOf(0, 0, TELLS));
        Sentence.ofTerms(5, "DULL: 20 holds: super.holds(x) + 3.", () -> actsOf(1, 20, HOLDS));
        Sentence.ofTerms(5, "SHARED: 30 minds: -super.minds(x).", () -> actsOf(2, 30, MINDS));
        Sentence.ofTerms(5, "RUBBED: 40 trades: super.trades(x) * 3. 41 minds: super.minds(x + 1).",
            () -> actsOf(3, 40, TRADES, MINDS));
        Sentence.ofTerms(5, "WALL: 50 trades: super.trades(x) - holds(2).", () -> actsOf(4, 50, TRADES));
        Sentence.ofTerms(5, "CHILD: 60 tells: super.tells(x) ^ 5.", () -> actsOf(5, 60, TELLS));
        Sentence.ofTerms(5, "STRANGER: 70 holds: super.holds(x) * 2.", () -> actsOf(6, 70, HOLDS));
        Sentence.ofTerms(5, "FOOT: 80 minds: super.minds(x) + trades(2). 81 tells: super.tells(x) - 1.",
            () -> actsOf(7, 80, MINDS, TELLS));
        Sentence.ofTerms(5, "holds(..) and so on: the body of its own KIND, or of the next KIND above that has one;",
            ShelvesSentences::nextAbove);
        Sentence.ofTerms(5, "super: from the KIND above the body's on.", ShelvesSentences::fromAbove);
        Sentence.ofTerms(5, "THE TRACE: numbers of the bodies that ran in the latest act(), as they began;",
            ShelvesSentences::traceOfTheLatest);
        Sentence.ofTerms(5, "the first 24 are kept.", ShelvesSentences::longestTrace);
    }

    private static void shelves() {
        Sentence.ofTerms(5, "SHELVES 0 .. 5 each hold nothing (at first), a VIEW (a BODY), or a ROW:",
            ShelvesSentences::sixShelves);
        Sentence.ofTerms(5, "of 0 bytes, 1 shorts, 2 ints, 3 longs, 4 booleans, of 0 .. 60 elements,",
            ShelvesSentences::sixtyElements);
        Sentence.ofTerms(5, "0 at first (false);", ShelvesSentences::zeroAtFirst);
        Sentence.ofTerms(5, "what is put in keeps its lowest bits (a boolean: whether it is not 0; 1 or 0).",
            ShelvesSentences::lowestBits);
    }

    private static void refusals() {
        Sentence.ofTerms(5, "The host's REFUSALS: -11 nothing is there where something is wanted;", ShelvesSentences::nothingIsThere);
        Sentence.ofTerms(5, "-12 it is of another kind;", ShelvesSentences::anotherKind);
        Sentence.ofTerms(5, "-13 a place that is not there;", ShelvesSentences::noSuchPlace);
        Sentence.ofTerms(5, "-14 a size below 0.", ShelvesSentences::belowZero);
    }

    /** One BODY of each KIND: its number is its KIND. */
    private static NineOpinions oneOfEach() {
        NineOpinions x = new NineOpinions();
        for (int kind = 0; kind <= 7; kind++) {
            x.body(kind);
        }
        return x;
    }

    private static void acted(NineOpinions x, int body, int act, int with, int due) {
        Check.due("act(" + body + ", " + act + ", " + with + ")", x.act(body, act, with), due);
    }

    private static void traced(NineOpinions x, int... due) {
        Check.due("count(5)", x.count(5), due.length);
        for (int i = 0; i < due.length; i++) {
            Check.due("trace(" + i + ")", x.trace(i), due[i]);
        }
        Check.due("trace(" + due.length + ")", x.trace(due.length), BAD);
    }

    private static void fiftyBodies() {
        NineOpinions x = new NineOpinions();
        for (int body = 0; body <= 49; body++) {
            Check.due("body", x.body(STRANGER), body);
        }
        Check.due("the 51st", x.body(STRANGER), FULL);
        acted(x, 0, HOLDS, 1, 2);
        acted(x, 49, HOLDS, 1, 100);
        acted(x, 50, HOLDS, 1, 0);
        Check.due("keep(0, 49)", x.keep(0, 49), 1);
        Check.each("keep", body -> x.keep(0, body), BAD, 50, LOW, -2, HIGH);
    }

    private static void actsWrap() {
        NineOpinions x = oneOfEach();
        acted(x, VIEW, HOLDS, HIGH, HIGH);
        acted(x, 1, HOLDS, HIGH, LOW + 3);
        acted(x, 1, HOLDS, LOW, LOW + 4);
        acted(x, VIEW, MINDS, HIGH, -2);
        acted(x, VIEW, MINDS, LOW, 0);
        acted(x, VIEW, MINDS, 1 << 30, LOW);
        acted(x, SHARED, MINDS, (1 << 30) - SHARED, LOW);
        acted(x, RUBBED, MINDS, HIGH, -6);
        acted(x, RUBBED, TRADES, HIGH, (int) ((HIGH ^ 3) * 3L));
        acted(x, STRANGER, HOLDS, HIGH, 10);
        acted(x, 4, TRADES, LOW, (int) ((LOW ^ 4) - 9L));
        acted(x, VIEW, TELLS, LOW, -1);
        acted(x, CHILD, TELLS, HIGH, (int) (-10L - 12L) ^ 5);
    }

    private static void nextAbove() {
        NineOpinions x = oneOfEach();
        acted(x, FOOT, HOLDS, 1, 11);
        traced(x, 20, 1);
        acted(x, CHILD, HOLDS, 1, 6);
        traced(x, 1);
        acted(x, CHILD, MINDS, 1, -14);
        traced(x, 41, 30, 10, 1);
        acted(x, STRANGER, MINDS, 1, 28);
        traced(x, 10, 70, 1);
        acted(x, STRANGER, TELLS, 1, 28 - 7);
        traced(x, 2, 10, 70, 1, 11);
        acted(x, FOOT, TRADES, 1, -6);
        traced(x, 50, 11, 20, 1);
    }

    private static void fromAbove() {
        NineOpinions x = oneOfEach();
        acted(x, RUBBED, MINDS, 10, -28);
        traced(x, 41, 30, 10, 1);
        acted(x, FOOT, MINDS, 10, 40 - 7);
        traced(x, 80, 10, 20, 1, 50, 11, 20, 1);
        acted(x, 4, TRADES, 10, 14 - 9);
        traced(x, 50, 11, 20, 1);
        acted(x, CHILD, TELLS, 10, -44 ^ 5);
        traced(x, 60, 2, 41, 30, 10, 1, 40, 11);
    }

    private static void traceOfTheLatest() {
        NineOpinions x = oneOfEach();
        Check.due("of none yet", x.trace(0), BAD);
        acted(x, FOOT, TELLS, 1, 20);
        acted(x, SHARED, TELLS, 1, -9);
        traced(x, 2, 30, 10, 1, 11);
        acted(x, VIEW, TRADES, 1, 1);
        traced(x, 11);
        x.body(VIEW);
        x.count(0);
        traced(x, 11);
    }

    /** No ACT runs more than fourteen bodies: all of them are kept. */
    private static void longestTrace() {
        NineOpinions x = oneOfEach();
        acted(x, FOOT, TELLS, 10, 38);
        traced(x, 81, 2, 80, 10, 20, 1, 50, 11, 20, 1, 50, 11, 20, 1);
        Check.each("trace", x::trace, BAD, 14, 23, 24, 25);
    }

    private static void sixShelves() {
        NineOpinions x = oneOfEach();
        Check.each("taken of SHELF at first", s -> x.taken(s, 0), -11, 0, 1, 2, 3, 4, 5);
        for (int shelf = 0; shelf <= 5; shelf++) {
            Check.due("keep", x.keep(shelf, shelf), 1);
        }
        for (int shelf = 0; shelf <= 5; shelf++) {
            Check.due("taken(" + shelf + ", 0)", x.taken(shelf, 0), shelf);
            Check.due("row", x.row(shelf, INTS, 1), 1);
            Check.due("put", x.put(shelf, 0, 10 + shelf), 1);
        }
        for (int shelf = 0; shelf <= 5; shelf++) {
            Check.due("element(" + shelf + ", 0)", x.element(shelf, 0), 10 + shelf);
        }
        Check.each("keep on SHELF", s -> x.keep(s, -1), BAD, NO_SHELVES);
        Check.each("row on SHELF", s -> x.row(s, 0, 1), BAD, NO_SHELVES);
        Check.each("put on SHELF", s -> x.put(s, 0, 1), BAD, NO_SHELVES);
        Check.each("element on SHELF", s -> x.element(s, 0), NONE, NO_SHELVES);
        Check.each("shift from SHELF", s -> x.shift(s, 0, 0, 0, 1), BAD, NO_SHELVES);
        Check.each("shift to SHELF", s -> x.shift(0, 0, s, 0, 1), BAD, NO_SHELVES);
        Check.each("taken of SHELF", s -> x.taken(s, 0), BAD, NO_SHELVES);
        Check.each("people of SHELF", s -> x.people(s, 0, 1), BAD, NO_SHELVES);
        Check.each("believes of SHELF", s -> x.believes(s, 0, 0), BAD, NO_SHELVES);
        Check.each("whose of SHELF", s -> x.whose(s, 0), BAD, NO_SHELVES);
    }

    private static void sixtyElements() {
        for (int sort = BYTES; sort <= BOOLEANS; sort++) {
            NineOpinions x = new NineOpinions();
            Check.due("row of 60", x.row(0, sort, 60), 1);
            Check.due("put at 59", x.put(0, 59, 1), 1);
            Check.due("put at 60", x.put(0, 60, 1), -13);
            Check.due("element at 59", x.element(0, 59), 1);
            Check.due("row of 61", x.row(0, sort, 61), BAD);
            Check.due("the ROW stays", x.element(0, 59), 1);
            Check.due("row of 0", x.row(0, sort, 0), 1);
            Check.due("put at 0", x.put(0, 0, 1), -13);
            Check.due("row of 1", x.row(0, sort, 1), 1);
            Check.due("put at 0", x.put(0, 0, 1), 1);
            Check.due("put at 1", x.put(0, 1, 1), -13);
        }
        NineOpinions x = new NineOpinions();
        Check.each("row of sort", sort -> x.row(0, sort, 1), BAD, LOW, -1, 5, HIGH);
    }

    private static void zeroAtFirst() {
        for (int sort = BYTES; sort <= BOOLEANS; sort++) {
            NineOpinions x = new NineOpinions();
            x.row(3, sort, 60);
            for (int i = 0; i <= 59; i++) {
                Check.due("element at " + i, x.element(3, i), 0);
                x.put(3, i, -1);
            }
            x.row(3, sort, 60);
            for (int i = 0; i <= 59; i++) {
                Check.due("element anew at " + i, x.element(3, i), 0);
            }
        }
    }

    private static void kept(int sort, long put, long due) {
        NineOpinions x = new NineOpinions();
        x.row(0, sort, 3);
        Check.due("put(0, 1, " + put + ")", x.put(0, 1, put), 1);
        Check.due("element of sort " + sort, x.element(0, 1), due);
        Check.due("the one ahead", x.element(0, 0), 0);
        Check.due("the one behind", x.element(0, 2), 0);
    }

    private static void lowestBits() {
        kept(BYTES, 127, 127);
        kept(BYTES, 128, -128);
        kept(BYTES, 255, -1);
        kept(BYTES, 256, 0);
        kept(BYTES, -129, 127);
        kept(BYTES, HIGH, -1);
        kept(SHORTS, 32767, 32767);
        kept(SHORTS, 32768, -32768);
        kept(SHORTS, 65535, -1);
        kept(SHORTS, 65536, 0);
        kept(SHORTS, -32769, 32767);
        kept(INTS, HIGH, HIGH);
        kept(INTS, 2147483648L, LOW);
        kept(INTS, 4294967295L, -1);
        kept(INTS, 4294967296L, 0);
        kept(INTS, Long.MAX_VALUE, -1);
        kept(LONGS, Long.MAX_VALUE, Long.MAX_VALUE);
        kept(LONGS, Long.MIN_VALUE + 1, Long.MIN_VALUE + 1);
        kept(LONGS, Long.MIN_VALUE, Long.MIN_VALUE);
        kept(LONGS, 4294967296L, 4294967296L);
        for (long v : new long[] {1, -1, 2, 256, 4294967296L, Long.MIN_VALUE, Long.MAX_VALUE}) {
            kept(BOOLEANS, v, 1);
        }
        for (int sort = BYTES; sort <= BOOLEANS; sort++) {
            kept(sort, 0, 0);
            kept(sort, 1, 1);
        }
    }

    /** SHELF 0 holds nothing, 1 a VIEW, 2 a ROW of three bytes, 3 one of three ints, 4 one of two bytes. */
    private static NineOpinions laid() {
        NineOpinions x = Say.town(0);
        x.keep(1, x.body(RUBBED));
        Say.row(x, 2, BYTES, 4, 1, 5);
        Say.row(x, 3, INTS, 7, 8, 9);
        Say.row(x, 4, BYTES, 0, 0);
        return x;
    }

    private static void nothingIsThere() {
        NineOpinions x = laid();
        Check.due("put", x.put(0, 0, 1), -11);
        Check.due("element", x.element(0, 0), NONE);
        Check.due("shift from it", x.shift(0, 0, 2, 0, 1), -11);
        Check.due("shift to it", x.shift(2, 0, 0, 0, 1), -11);
        Check.due("shift from and to it", x.shift(0, 0, 0, 0, 0), -11);
        Check.due("taken", x.taken(0, 0), -11);
        Check.due("judge", x.judge(0, 0), -11);
        Check.due("believes", x.believes(0, 0, 0), -11);
        Check.due("whose", x.whose(0, 0), -11);
        x.keep(2, -1);
        Check.due("where a ROW was", x.put(2, 0, 1), -11);
        x.keep(1, -1);
        Check.due("where a VIEW was", x.taken(1, 0), -11);
    }

    private static void anotherKind() {
        NineOpinions x = laid();
        Check.due("put into a VIEW", x.put(1, 0, 1), -12);
        Check.due("element of a VIEW", x.element(1, 0), NONE);
        Check.due("shift from a VIEW", x.shift(1, 0, 2, 0, 1), -12);
        Check.due("shift to a VIEW", x.shift(2, 0, 1, 0, 1), -12);
        Check.due("shift to another sort", x.shift(2, 0, 3, 0, 1), -12);
        Check.due("a ROW taken for a VIEW", x.taken(2, 0), -12);
        Check.due("a VIEW taken for one not above it", x.taken(1, 1), -12);
        Check.due("a VIEW for a BOOK", x.judge(1, 0), -12);
        Check.due("ints for a BOOK", x.whose(3, 0), -12);
        Check.due("bytes for PEOPLE", x.people(2, 0, 1), -12);
    }

    private static void noSuchPlace() {
        NineOpinions x = laid();
        Check.each("put at", i -> x.put(2, i, 1), -13, LOW, -1, 3, 60, HIGH);
        Check.each("element at", i -> x.element(2, i), NONE, LOW, -1, 3, 60, HIGH);
        Check.each("shift from", i -> x.shift(2, i, 4, 0, 1), -13, LOW, -1, 3, 60, HIGH);
        Check.each("shift to", j -> x.shift(2, 0, 4, j, 1), -13, LOW, -1, 2, 60, HIGH);
        Check.each("shift of", n -> x.shift(2, 0, 4, 0, n), -13, LOW, -1, 3, HIGH);
    }

    private static void belowZero() {
        NineOpinions x = laid();
        for (int sort = BYTES; sort <= BOOLEANS; sort++) {
            int its = sort;
            Check.each("row of " + sort + " of", n -> x.row(2, its, n), -14, -1, -60, LOW);
        }
        Check.due("what is there stays", x.element(2, 2), 5);
    }

    private static void kinds() {
        NineOpinions x = new NineOpinions();
        for (int kind = 0; kind <= 7; kind++) {
            Check.due("body(" + kind + ")", x.body(kind), kind);
            Check.due("count(4)", x.count(4), kind + 1);
            x.keep(0, kind);
            Check.due("its KIND", x.taken(0, 0), kind);
        }
        Check.due("another one of the first", x.body(0), 8);
    }

    private static void bodyRefused() {
        NineOpinions x = new NineOpinions();
        Check.each("body", x::body, BAD, LOW, -1, 8, HIGH);
        for (int body = 0; body <= 49; body++) {
            Check.due("body(7)", x.body(FOOT), body);
        }
        Check.each("the 51st", x::body, FULL, 0, 7);
        Check.each("of both BAD first, body", x::body, BAD, LOW, -1, 8, HIGH);
        Check.due("count(4)", x.count(4), 50);
    }

    /** holds(5), minds(5), trades(5), tells(5) of each KIND, its number being the KIND. */
    private static int dueOf(int kind, int act) {
        int[][] due = {
            {5, 10, 5, 9}, {9, 18, 4, 18}, {7, -14, 7, -17}, {8, -18, 18, -24},
            {12, 24, -8, 28}, {10, -22, 0, -34 ^ 5}, {22, 44, 3, 37}, {15, 23, -10, 28},
        };
        return due[kind][act];
    }

    private static void fourActs() {
        NineOpinions x = oneOfEach();
        for (int kind = 0; kind <= 7; kind++) {
            for (int act = HOLDS; act <= TELLS; act++) {
                acted(x, kind, act, 5, dueOf(kind, act));
            }
        }
    }

    /** ACTS of which a KIND has bodies of its own, numbered from one on; VIEW has the first eleven. */
    private static void actsOf(int kind, int firstBody, int... acts) {
        NineOpinions x = oneOfEach();
        int[] ofView = {1, 10, 11, 2};
        for (int i = 0; i < acts.length; i++) {
            acted(x, kind, acts[i], 5, dueOf(kind, acts[i]));
            Check.due("its own body begins", x.trace(0), kind == VIEW ? ofView[acts[i]] : firstBody + i);
        }
    }

    private static void noSuchAct() {
        int[][] wrong = {{8, 0}, {-1, 0}, {49, 0}, {50, 0}, {LOW, 0}, {HIGH, 0}, {0, -1}, {0, 4}, {0, LOW}, {0, HIGH}, {8, 4}};
        NineOpinions x = oneOfEach();
        for (int[] call : wrong) {
            x.act(FOOT, TELLS, 3);
            acted(x, call[0], call[1], 7, 0);
            traced(x);
        }
        acted(x, VIEW, HOLDS, 0, 0);
        traced(x, 1);
        acted(new NineOpinions(), 0, HOLDS, 7, 0);
    }

    private static void traceRefused() {
        NineOpinions x = oneOfEach();
        Check.each("of none yet, trace", x::trace, BAD, LOW, -1, 0, 23, 24, HIGH);
        x.act(VIEW, TELLS, 1);
        traced(x, 2, 10, 1, 11);
        Check.each("trace", x::trace, BAD, LOW, -1, 4, 23, 24, HIGH);
    }

    private static void keep() {
        NineOpinions x = laid();
        Check.due("a VIEW on nothing", x.keep(0, 0), 1);
        Check.due("it is there", x.taken(0, 0), RUBBED);
        Check.due("a VIEW on a ROW", x.keep(2, 0), 1);
        Check.due("the ROW is there no more", x.put(2, 0, 1), -12);
        Check.due("nothing on a VIEW", x.keep(1, -1), 1);
        Check.due("nothing is there", x.taken(1, 0), -11);
        Check.due("nothing on a ROW", x.keep(3, -1), 1);
        Check.due("nothing is there", x.put(3, 0, 1), -11);
        Check.due("nothing on nothing", x.keep(5, -1), 1);
        Check.due("the same VIEW on two", x.taken(0, 0), x.taken(2, 0));
    }

    private static void keepRefused() {
        NineOpinions x = laid();
        Check.each("keep on SHELF", s -> x.keep(s, 0), BAD, NO_SHELVES);
        Check.each("keep nothing on SHELF", s -> x.keep(s, -1), BAD, NO_SHELVES);
        Check.each("keep", body -> x.keep(1, body), BAD, LOW, -2, 1, 49, 50, HIGH);
        Check.due("what was there is there", x.taken(1, 0), RUBBED);
    }

    private static void row() {
        NineOpinions x = laid();
        Check.due("on nothing", x.row(0, SHORTS, 2), 1);
        Check.due("element(0, 1)", x.element(0, 1), 0);
        Check.due("on a VIEW", x.row(1, SHORTS, 2), 1);
        Check.due("the VIEW is there no more", x.taken(1, 0), -12);
        Check.due("on a ROW", x.row(2, BYTES, 2), 1);
        Check.due("its elements are 0", x.element(2, 0), 0);
        Check.due("its places are fewer", x.put(2, 2, 1), -13);
        Check.due("of none", x.row(3, LONGS, 0), 1);
        Check.due("it is a ROW", x.shift(3, 0, 3, 0, 0), 0);
    }

    private static void rowRefused() {
        NineOpinions x = laid();
        Check.each("row on SHELF", s -> x.row(s, 0, 1), BAD, NO_SHELVES);
        Check.each("row of sort", sort -> x.row(2, sort, 1), BAD, LOW, -1, 5, HIGH);
        Check.each("row of", n -> x.row(2, 0, n), BAD, 61, 62, HIGH);
        Check.each("row of", n -> x.row(2, 0, n), -14, -1, LOW);
        Check.each("of both BAD first, sort", sort -> x.row(2, sort, -1), BAD, LOW, -1, 5, HIGH);
        Check.each("of both BAD first, on SHELF", s -> x.row(s, 0, -1), BAD, NO_SHELVES);
        Check.due("what was there is there", x.element(2, 2), 5);
    }

    private static void put() {
        NineOpinions x = laid();
        Check.due("the first", x.put(2, 0, 100), 1);
        Check.due("the last", x.put(2, 2, -100), 1);
        Check.due("element(2, 0)", x.element(2, 0), 100);
        Check.due("element(2, 1)", x.element(2, 1), 1);
        Check.due("element(2, 2)", x.element(2, 2), -100);
        Check.due("once more", x.put(2, 0, 0), 1);
        Check.due("element(2, 0)", x.element(2, 0), 0);
    }

    private static void putRefused() {
        NineOpinions x = laid();
        Check.each("put on SHELF", s -> x.put(s, -1, 1), BAD, NO_SHELVES);
        Check.each("on nothing, put at", i -> x.put(0, i, 1), -11, LOW, -1, 0, 60, HIGH);
        Check.each("on a VIEW, put at", i -> x.put(1, i, 1), -12, LOW, -1, 0, 60, HIGH);
        Check.each("put at", i -> x.put(2, i, 1), -13, LOW, -1, 3, 60, HIGH);
        Check.due("what was there is there", x.element(2, 2), 5);
    }

    private static void elementRefused() {
        NineOpinions x = laid();
        Check.each("element on SHELF", s -> x.element(s, 0), NONE, NO_SHELVES);
        Check.each("of nothing, element at", i -> x.element(0, i), NONE, -1, 0);
        Check.each("of a VIEW, element at", i -> x.element(1, i), NONE, -1, 0);
        Check.each("element at", i -> x.element(2, i), NONE, LOW, -1, 3, 60, HIGH);
        Check.due("the first", x.element(2, 0), 4);
        Check.due("the last", x.element(2, 2), 5);
    }

    private static void elements(NineOpinions x, int shelf, long... due) {
        for (int i = 0; i < due.length; i++) {
            Check.due("element(" + shelf + ", " + i + ")", x.element(shelf, i), due[i]);
        }
        Check.due("and no more", x.element(shelf, due.length), NONE);
    }

    private static void shift() {
        NineOpinions x = new NineOpinions();
        Say.row(x, 0, LONGS, 1, 2, 3, 4, 5);
        Say.row(x, 1, LONGS, 6, 7, 8);
        Check.due("none", x.shift(0, 0, 1, 0, 0), 0);
        Check.due("none, from behind the last", x.shift(0, 5, 1, 3, 0), 0);
        elements(x, 1, 6, 7, 8);
        Check.due("the last to the first", x.shift(0, 4, 1, 0, 1), 1);
        elements(x, 1, 5, 7, 8);
        Check.due("all", x.shift(1, 0, 0, 2, 3), 3);
        elements(x, 0, 1, 2, 5, 7, 8);
        Check.due("up the same", x.shift(0, 0, 0, 1, 4), 4);
        elements(x, 0, 1, 1, 2, 5, 7);
        Check.due("down the same", x.shift(0, 1, 0, 0, 4), 4);
        elements(x, 0, 1, 2, 5, 7, 7);
        Check.due("to its own place", x.shift(0, 0, 0, 0, 5), 5);
        elements(x, 0, 1, 2, 5, 7, 7);
        elements(x, 1, 5, 7, 8);
        for (int sort = BYTES; sort <= BOOLEANS; sort++) {
            Say.row(x, 2, sort, 1, 0, 1);
            Say.row(x, 3, sort, 0, 0);
            Check.due("of sort " + sort, x.shift(2, 1, 3, 0, 2), 2);
            elements(x, 3, 0, 1);
        }
    }

    private static void shiftRefused() {
        NineOpinions x = laid();
        Check.each("shift from SHELF", s -> x.shift(s, -1, 0, 0, -1), BAD, NO_SHELVES);
        Check.each("shift to SHELF", s -> x.shift(0, -1, s, 0, -1), BAD, NO_SHELVES);
        Check.each("from nothing to SHELF", s -> x.shift(0, -1, s, 0, -1), -11, 0, 1, 2, 3, 5);
        Check.each("to nothing from SHELF", s -> x.shift(s, -1, 0, 0, -1), -11, 0, 1, 2, 3, 5);
        Check.each("from a VIEW to SHELF", s -> x.shift(1, -1, s, 0, -1), -12, 1, 2, 3, 4);
        Check.each("to a VIEW from SHELF", s -> x.shift(s, -1, 1, 0, -1), -12, 1, 2, 3, 4);
        Check.due("to another sort", x.shift(2, -1, 3, 0, -1), -12);
        Check.due("from another sort", x.shift(3, 9, 2, 9, 9), -12);
        int[][] places = {
            {-1, 0, 1}, {0, -1, 1}, {0, 0, -1}, {3, 0, 1}, {0, 2, 1}, {0, 0, 3}, {2, 0, 2}, {0, 1, 2}, {4, 0, 0}, {0, 3, 0},
            {HIGH, 0, HIGH}, {1, 1, HIGH}, {0, HIGH, 1}, {LOW, 0, 0}, {0, LOW, 0}, {0, 0, LOW}, {3, 2, -1}, {LOW, 0, LOW},
        };
        for (int[] p : places) {
            Check.due("shift(2, " + p[0] + ", 4, " + p[1] + ", " + p[2] + ")", x.shift(2, p[0], 4, p[1], p[2]), -13);
        }
        elements(x, 2, 4, 1, 5);
        elements(x, 4, 0, 0);
    }

    private static void taken() {
        int[][] above = {{0}, {0, 1}, {0, 2}, {0, 2, 3}, {0, 1, 4}, {0, 2, 3, 5}, {0, 6}, {0, 1, 4, 7}};
        NineOpinions x = oneOfEach();
        for (int kind = 0; kind <= 7; kind++) {
            x.keep(3, kind);
            for (int k = 0; k <= 7; k++) {
                boolean under = false;
                for (int one : above[kind]) {
                    under |= one == k;
                }
                Check.due("KIND " + kind + " taken for " + k, x.taken(3, k), under ? kind : -12);
            }
        }
    }

    private static void takenRefused() {
        NineOpinions x = laid();
        Check.each("taken of SHELF", s -> x.taken(s, 0), BAD, NO_SHELVES);
        Check.each("taken for", k -> x.taken(1, k), BAD, LOW, -1, 8, HIGH);
        Check.each("of both BAD first, taken for", k -> x.taken(0, k), BAD, LOW, -1, 8, HIGH);
        Check.each("nothing, taken for", k -> x.taken(0, k), -11, 0, 1, 2, 3, 4, 5, 6, 7);
        Check.each("a ROW, taken for", k -> x.taken(2, k), -12, 0, 1, 2, 3, 4, 5, 6, 7);
        Check.each("one of RUBBED, taken for", k -> x.taken(1, k), -12, 1, 4, 5, 6, 7);
        Check.each("one of RUBBED, taken for", k -> x.taken(1, k), RUBBED, 0, 2, 3);
    }

    private static void count() {
        NineOpinions x = Say.written(Say.town(1, 2, 3, 4), 5, 6, 7);
        Say.law(x, "d");
        x.feed('d');
        x.feed('+');
        x.mend(0, 0, 9);
        x.body(0);
        x.body(1);
        x.body(2);
        x.body(3);
        x.body(4);
        int[] due = {4, 3, 2, 1, 5, 0};
        for (int what = 0; what <= 5; what++) {
            Check.due("count(" + what + ")", x.count(what), due[what]);
        }
        x.strike(5);
        x.undo();
        x.law();
        Check.due("LINES then", x.count(1), 2);
        Check.due("bytes then", x.count(2), 0);
        Check.due("changes then", x.count(3), 0);
    }

    private static void countOfBodies() {
        NineOpinions x = oneOfEach();
        Check.due("none yet", x.count(5), 0);
        x.act(FOOT, TELLS, 1);
        Check.due("the most", x.count(5), 14);
        x.act(VIEW, TRADES, 1);
        Check.due("of the latest", x.count(5), 1);
        x.act(VIEW, 4, 1);
        Check.due("no such ACT", x.count(5), 0);
    }

    private static void countRefused() {
        Check.each("count", new NineOpinions()::count, BAD, LOW, -1, 6, HIGH);
    }
}
