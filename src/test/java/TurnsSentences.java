/** Turns, books and likeness: part 3 of the Terms, promises 16 to 22. */
final class TurnsSentences {
    private static final int BAD = NineOpinions.BAD, NOT = NineOpinions.NOT, VOID = NineOpinions.VOID;
    private static final int LOW = Check.LOW, HIGH = Check.HIGH;
    private static final int[] NEITHER = {LOW, -1, 2, HIGH}, NO_SHELVES = {LOW, -1, 6, HIGH};

    private TurnsSentences() {
    }

    static void look() {
        turns();
        books();
        likeness();
        Sentence.ofPromise(16, "BY TURNS (abn: 100 times the one, 10 times the other, unlike, and n):", TurnsSentences::abn);
        Sentence.ofPromise(16, "that (what 0), the best first change (1).", TurnsSentences::byTurnsWhat);
        Sentence.ofPromise(16, "VOID: BAD.", TurnsSentences::byTurnsRefused);
        Sentence.ofPromise(17, "JUDGED (a BOOK on a SHELF).", TurnsSentences::judge);
        Sentence.ofPromise(17, "BAD, -11, -12 (no ROW of bytes); NOT.", TurnsSentences::judgeRefused);
        Sentence.ofPromise(18, "BELIEVES: how many (what 0), the least (1; NOT).", TurnsSentences::believesWhat);
        Sentence.ofPromise(18, "BAD, -11, -12.", TurnsSentences::believesRefused);
        Sentence.ofPromise(19, "WHOSE (what 0), CODES (1).", TurnsSentences::whoseWhat);
        Sentence.ofPromise(19, "BAD, -11, -12.", TurnsSentences::whoseRefused);
        Sentence.ofPromise(20, "AGREE (ab: 10 times the one and the other): how many (what 0), how far (1).",
            TurnsSentences::agreeAb);
        Sentence.ofPromise(20, "BAD.", TurnsSentences::agreeRefused);
        Sentence.ofPromise(21, "LIKE. BAD; NOT.", TurnsSentences::likeRefused);
        Sentence.ofPromise(22, "SPLIT: which (what 0), that VIEW (1).", TurnsSentences::splitWhat);
        Sentence.ofPromise(22, "BAD.", TurnsSentences::splitRefused);
    }

    private static void turns() {
        Sentence.ofTerms(3, "BY TURNS: two of PEOPLE change one LINE each by turns (or nothing;", TurnsSentences::orNothing);
        Sentence.ofTerms(3, "written only if there is ROOM;", TurnsSentences::onlyWithRoom);
        Sentence.ofTerms(3, "WORN 0),", TurnsSentences::wornZero);
        Sentence.ofTerms(3, "n times (1 .. 3), the first one first:", TurnsSentences::upToThreeTimes);
        Sentence.ofTerms(3, "he wants what he MINDS less what the other one MINDS least, the other one greatest: that,"
            + " if both do their best;", TurnsSentences::bothDoTheirBest);
        Sentence.ofTerms(3, "the first one's best first change (0 .. 23; 24: nothing;", TurnsSentences::firstChange);
        Sentence.ofTerms(3, "24: nothing; of like ones the least).", TurnsSentences::firstChangeOfLikeOnes);
    }

    private static void books() {
        Sentence.ofTerms(3, "A BOOK of one: a ROW of bytes on a SHELF: by twos a LINE, whether he would have it struck (1, 0:",
            TurnsSentences::oneOrZero);
        Sentence.ofTerms(3, "he would, if his VIEW of its MATTER is another one):", TurnsSentences::anotherOne);
        Sentence.ofTerms(3, "JUDGED: the first two that is not so", TurnsSentences::firstNotSo);
        Sentence.ofTerms(3, "(none such, lacking, too);", TurnsSentences::noneSuchOrLacking);
        Sentence.ofTerms(3, "(none such, lacking, too); NOT.", TurnsSentences::allIsSo);
        Sentence.ofTerms(3, "BELIEVES: how many VIEWS of a MATTER make all of the BOOK that is of this MATTER so;",
            TurnsSentences::viewsThatMakeItSo);
        Sentence.ofTerms(3, "the least (NOT).", TurnsSentences::leastViewOrNot);
        Sentence.ofTerms(3, "WHOSE: which of PEOPLE (bits) the BOOK may be of.", TurnsSentences::whose);
        Sentence.ofTerms(3, "CODES: how many BELIEFS of 4096 make all so.", TurnsSentences::codes);
    }

    private static void likeness() {
        Sentence.ofTerms(3, "AGREE: of how many MATTERS two have the same VIEW; how far they are apart in all.",
            TurnsSentences::agree);
        Sentence.ofTerms(3, "LIKE: who is least far from one (of like ones the least);", TurnsSentences::leastFar);
        Sentence.ofTerms(3, "NOT: nobody else.", TurnsSentences::nobodyElse);
        Sentence.ofTerms(3, "SPLIT: the MATTER on which VIEWS are most unlike:", TurnsSentences::mostUnlike);
        Sentence.ofTerms(3, "by which STANDING with its commonest VIEW (of like ones the least) is least of all:"
            + " which; that VIEW.", TurnsSentences::commonest);
    }

    /** What it comes to and the best first change. */
    private static void played(NineOpinions x, int abn, int that, int first) {
        Check.due("byTurns(" + abn + ", 0)", x.byTurns(abn, 0), that);
        Check.due("byTurns(" + abn + ", 1)", x.byTurns(abn, 1), first);
    }

    /** Two of BELIEF 0; the STANDING of 1 is 0, so that a LAW with *s is the first one's alone. */
    private static NineOpinions oneWhoCounts(String law, int... lines) {
        NineOpinions x = Say.written(Say.town(0, 0), lines);
        x.mend(1, 1, 0);
        Say.law(x, law);
        return x;
    }

    private static void orNothing() {
        NineOpinions x = oneWhoCounts("w*s", 0);
        x.mend(0, 2, 5);
        x.mend(0, 3, 1);
        played(x, 11, 0, 0);
        played(x, 101, -5, 24);
        played(x, 12, 0, 0);
        played(x, 102, 0, 0);
        Check.due("the board stays", x.board(0), 1);
        Check.due("WORN stays", x.of(0, 2), 5);
        Check.due("nothing is LED but what was written", 10 * x.led(0) + x.led(1), 10);
    }

    private static void onlyWithRoom() {
        NineOpinions x = Say.written(Say.town(0, 4095), 5, 10);
        x.mend(0, 3, 2);
        // LINE 10 is nearer to the other one: without ROOM it is struck
        played(x, 11, -1, 10);
        x.mend(0, 3, 1);
        played(x, 11, -1, 10);
        x.mend(0, 3, 3);
        played(x, 11, -3, 0);
        x.mend(0, 3, 9);
        played(x, 11, -3, 0);
        NineOpinions full = Say.written(Say.town(0, 4095), 0, 3, 4, 7, 8, 11, 12, 15, 16);
        // nine stand: he strikes one that the other one believes
        played(full, 11, -6, 3);
    }

    private static void wornZero() {
        NineOpinions x = oneWhoCounts("w*s+9*s*(k=0)", 0, 4, 8, 12, 16, 20);
        x.mend(0, 2, 5);
        x.mend(0, 3, 6);
        played(x, 11, 5, 24);
        x.mend(0, 3, 7);
        x.mend(1, 2, 9);
        Check.due("now", x.minds(0, 6), 5);
        played(x, 11, 5, 1);
        NineOpinions y = oneWhoCounts("w*s+9*s*(k=0)", 1, 4, 8, 12, 16, 20);
        y.mend(1, 2, 5);
        y.mend(0, 2, 9);
        played(y, 11, 0, 0);
        NineOpinions again = oneWhoCounts("w*s+s*(k=0)", 0);
        again.mend(0, 2, 9);
        again.mend(0, 3, 1);
        // 5 for the MATTERS without a LINE, one more for LINE 0 struck; written anew it would be WORN no more
        played(again, 11, 6, 0);
        played(again, 13, 5, 0);
    }

    private static void upToThreeTimes() {
        NineOpinions x = Say.town(0, 4095);
        played(x, 11, -3, 0);
        played(x, 12, 0, 0);
        played(x, 13, -3, 0);
        played(x, 101, -3, 3);
        played(x, 102, 0, 3);
        played(x, 103, -3, 3);
        for (int n : new int[] {0, 4, 5, 9}) {
            played(x, 10 + n, VOID, VOID);
        }
    }

    private static void bothDoTheirBest() {
        // on MATTER 0 alone they differ: 0 wants VIEW 0 of it, 1 wants VIEW 3
        NineOpinions x = Say.town(0, 3);
        played(x, 11, -3, 0);
        played(x, 101, -3, 3);
        played(x, 12, 0, 0);
        NineOpinions y = Say.written(Say.town(0, 3), 3);
        Check.due("now", y.minds(0, 6) - y.minds(1, 6), 3);
        played(y, 11, 0, 0);
        played(y, 101, -3, 4);
    }

    private static void firstChange() {
        for (int line = 0; line <= 23; line++) {
            NineOpinions x = Say.written(Say.town(0, 4095), line);
            x.mend(0, 3, 1);
            boolean dear = line % 4 >= 2;
            int now = 2 * (line % 4) - 3;
            played(x, 11, dear ? 0 : now, dear ? line : 24);
        }
        NineOpinions last = oneWhoCounts("9*s*(m=5)*(!(k=1)|!(d=3))", 1);
        // only VIEW 3 of MATTER 5 alone is what he MINDS nothing of
        last.mend(0, 3, 2);
        played(last, 11, 0, 23);
    }

    private static void firstChangeOfLikeOnes() {
        played(Say.town(5, 5), 11, 0, 0);
        NineOpinions x = Say.written(Say.town(5, 5), 23, 7);
        x.mend(0, 3, 1);
        played(x, 11, 0, 7);
        played(x, 13, 0, 7);
        NineOpinions y = Say.written(Say.town(0, 4095), 0, 4);
        y.mend(0, 3, 1);
        played(y, 11, -6, 24);
        NineOpinions z = Say.written(Say.town(0, 4095), 3, 7);
        z.mend(0, 3, 1);
        played(z, 11, 3, 3);
    }

    private static NineOpinions book(NineOpinions x, long... bytes) {
        Say.row(x, 5, 0, bytes);
        return x;
    }

    /** JUDGED of one of VIEWS 0, 1, 2, 3, 0, 3. */
    private static int judged(long... bytes) {
        return book(Say.town(Say.code(0, 1, 2, 3, 0, 3)), bytes).judge(5, 0);
    }

    private static void oneOrZero() {
        Check.due("his, 0", judged(0, 0), NOT);
        Check.due("his, 1", judged(0, 1), 0);
        Check.due("another one, 1", judged(1, 1), NOT);
        Check.due("another one, 0", judged(1, 0), 0);
        for (long neither : new long[] {2, -1, 127, -128}) {
            Check.due("his, " + neither, judged(0, neither), 0);
            Check.due("another one, " + neither, judged(1, neither), 0);
        }
        Check.due("256 is the byte 0", judged(0, 256), NOT);
        Check.due("257 is the byte 1", judged(1, 257), NOT);
    }

    private static void anotherOne() {
        int[] his = {0, 5, 10, 15, 16, 23};
        for (int line = 0; line <= 23; line++) {
            boolean isHis = his[line / 4] == line;
            Check.due("LINE " + line + ", 0", judged(line, 0), isHis ? NOT : 0);
            Check.due("LINE " + line + ", 1", judged(line, 1), isHis ? 0 : NOT);
        }
    }

    private static void firstNotSo() {
        Check.due("the first", judged(0, 1, 5, 1), 0);
        Check.due("the second", judged(0, 0, 5, 1, 10, 1), 1);
        Check.due("the third", judged(0, 0, 5, 0, 10, 1), 2);
        Check.due("told twice, once not so", judged(0, 0, 0, 1), 1);
        NineOpinions x = book(Say.town(0), new long[60]);
        x.put(5, 59, 1);
        Check.due("the thirtieth", x.judge(5, 0), 29);
    }

    private static void noneSuchOrLacking() {
        for (long none : new long[] {24, 25, 127, -1, -4, -128}) {
            Check.due("no LINE " + none + ", 0", judged(0, 0, none, 0), 1);
            Check.due("no LINE " + none + ", 1", judged(0, 0, none, 1), 1);
        }
        Check.due("lacking, his", judged(0, 0, 5), 1);
        Check.due("lacking, another one", judged(0, 0, 6), 1);
        Check.due("lacking, none such", judged(0, 0, 24), 1);
        Check.due("lacking all along", judged(0), 0);
        Check.due("lacking behind one that is not so", judged(1, 0, 5), 0);
        NineOpinions x = book(Say.town(0), new long[59]);
        Check.due("lacking, the thirtieth", x.judge(5, 0), 29);
    }

    private static void allIsSo() {
        Check.due("an empty BOOK", judged(), NOT);
        Check.due("one two", judged(23, 0), NOT);
        Check.due("all MATTERS", judged(0, 0, 5, 0, 10, 0, 15, 0, 16, 0, 23, 0), NOT);
        Check.due("told twice", judged(1, 1, 1, 1), NOT);
        Check.due("thirty twos", book(Say.town(0), new long[60]).judge(5, 0), NOT);
    }

    private static void viewsOf(NineOpinions x, int matter, int many, int least) {
        Check.due("believes(5, " + matter + ", 0)", x.believes(5, matter, 0), many);
        Check.due("believes(5, " + matter + ", 1)", x.believes(5, matter, 1), least);
    }

    private static void viewsThatMakeItSo() {
        NineOpinions x = book(new NineOpinions(), 0, 1, 6, 0, 9, 1, 10, 1, 12, 1, 13, 1, 14, 1, 23, 0);
        viewsOf(x, 0, 3, 1);
        viewsOf(x, 1, 1, 2);
        viewsOf(x, 2, 2, 0);
        viewsOf(x, 3, 1, 3);
        viewsOf(x, 4, 4, 0);
        viewsOf(x, 5, 1, 3);
        NineOpinions empty = book(new NineOpinions());
        for (int matter = 0; matter <= 5; matter++) {
            viewsOf(empty, matter, 4, 0);
        }
        NineOpinions others = book(new NineOpinions(), 24, 0, -1, 0, -2, 1, 127, 1, 4, 0);
        viewsOf(others, 0, 4, 0);
        viewsOf(others, 5, 4, 0);
        viewsOf(others, 1, 1, 0);
    }

    private static void leastViewOrNot() {
        for (int view = 0; view <= 3; view++) {
            viewsOf(book(new NineOpinions(), 20 + view, 0), 5, 1, view);
        }
        viewsOf(book(new NineOpinions(), 20, 1, 21, 1), 5, 2, 2);
        viewsOf(book(new NineOpinions(), 20, 1, 21, 1, 22, 1, 23, 1), 5, 0, NOT);
        viewsOf(book(new NineOpinions(), 20, 0, 21, 0), 5, 0, NOT);
        viewsOf(book(new NineOpinions(), 20, 2), 5, 0, NOT);
        viewsOf(book(new NineOpinions(), 0, 0, 20), 5, 0, NOT);
        viewsOf(book(new NineOpinions(), 0, 0, 20), 0, 1, 0);
        viewsOf(book(new NineOpinions(), new long[60]), 0, 1, 0);
        viewsOf(book(new NineOpinions(), new long[59]), 0, 0, NOT);
        viewsOf(book(new NineOpinions(), new long[59]), 5, 4, 0);
    }

    private static NineOpinions three() {
        return Say.town(0, 1, Say.code(1, 2, 0, 0, 0, 3));
    }

    private static void whose() {
        Check.due("an empty BOOK", book(three()).whose(5, 0), 7);
        Check.due("of nobody there", book(new NineOpinions()).whose(5, 0), 0);
        Check.due("of the first", book(three(), 0, 0).whose(5, 0), 1);
        Check.due("of two", book(three(), 0, 1).whose(5, 0), 6);
        Check.due("of the last", book(three(), 0, 1, 6, 0).whose(5, 0), 4);
        Check.due("of none", book(three(), 2, 0).whose(5, 0), 0);
        Check.due("none such", book(three(), 24, 1).whose(5, 0), 0);
        Check.due("lacking", book(three(), 0).whose(5, 0), 0);
        Check.due("thirty twos", book(three(), new long[60]).whose(5, 0), 1);
        Check.due("lacking, the thirtieth", book(three(), new long[59]).whose(5, 0), 0);
        Check.due("of eight", book(Say.town(0, 0, 0, 0, 0, 0, 0, 0), 0, 0).whose(5, 0), 255);
    }

    private static void codes() {
        Check.due("an empty BOOK", book(new NineOpinions()).whose(5, 1), 4096);
        Check.due("one VIEW", book(three(), 23, 0).whose(5, 1), 1024);
        Check.due("three VIEWS", book(three(), 23, 1).whose(5, 1), 3072);
        Check.due("one BELIEF", book(three(), 0, 0, 5, 0, 10, 0, 15, 0, 16, 0, 23, 0).whose(5, 1), 1);
        Check.due("two MATTERS", book(three(), 0, 1, 1, 1, 4, 1).whose(5, 1), 2 * 3 * 256);
        Check.due("not so", book(three(), 0, 0, 1, 0).whose(5, 1), 0);
        Check.due("none such", book(three(), 24, 0).whose(5, 1), 0);
        Check.due("none such, below 0", book(three(), -1, 1).whose(5, 1), 0);
        Check.due("lacking", book(three(), 0, 0, 4).whose(5, 1), 0);
        Check.due("lacking, none such", book(three(), 99).whose(5, 1), 0);
        Check.due("thirty twos", book(three(), new long[60]).whose(5, 1), 1024);
        Check.due("lacking, the thirtieth", book(three(), new long[59]).whose(5, 1), 0);
    }

    private static void agree() {
        NineOpinions x = Say.town(0, 4095, Say.code(0, 3, 1, 0, 2, 0), 0);
        int[][] due = {{1, 0, 18}, {10, 0, 18}, {2, 3, 6}, {12, 1, 12}, {3, 6, 0}, {0, 6, 0}, {22, 6, 0}, {33, 6, 0}};
        for (int[] pair : due) {
            Check.due("agree(" + pair[0] + ", 0)", x.agree(pair[0], 0), pair[1]);
            Check.due("agree(" + pair[0] + ", 1)", x.agree(pair[0], 1), pair[2]);
        }
    }

    private static void leastFar() {
        NineOpinions x = Say.town(Say.code(1, 1, 1, 1, 1, 1), 4095, Say.code(0, 0, 1, 1, 1, 1), Say.code(3, 1, 1, 1, 1, 1));
        Check.due("of two alike", x.like(0), 2);
        Check.due("the only near one", x.like(1), 3);
        Check.due("not himself", x.like(2), 0);
        Check.due("the first", x.like(3), 0);
        NineOpinions same = Say.town(9, 9, 9, 9, 9, 9, 9, 9);
        Check.due("of seven alike, not himself", same.like(0), 1);
        Check.due("of seven alike", same.like(7), 0);
        NineOpinions last = Say.town(0, 4095, 4095, 4095, 4095, 4095, 4095, 1);
        Check.due("the last", last.like(0), 7);
    }

    private static void nobodyElse() {
        NineOpinions x = Say.town(5);
        Check.due("one alone", x.like(0), NOT);
        x.person(4090);
        Check.due("anybody else", x.like(0), 1);
    }

    private static void divided(NineOpinions x, int matter, int view) {
        Check.due("split(0)", x.split(0), matter);
        Check.due("split(1)", x.split(1), view);
    }

    private static void mostUnlike() {
        divided(Say.town(0, 1024), 5, 0);
        divided(Say.town(0, Say.code(0, 1, 0, 0, 1, 0)), 1, 0);
        divided(Say.town(Say.code(2, 2, 2, 2, 2, 2)), 0, 2);
        divided(Say.town(Say.code(3, 0, 0, 0, 0, 0), Say.code(3, 1, 0, 0, 0, 0), Say.code(3, 2, 0, 0, 0, 0)), 1, 0);
        divided(new NineOpinions(), 0, 0);
    }

    private static void commonest() {
        NineOpinions x = Say.town(0, 0, Say.code(0, 3, 0, 0, 0, 0));
        divided(x, 1, 0);
        x.mend(2, 1, 2);
        divided(x, 1, 0);
        x.mend(2, 1, 3);
        divided(x, 1, 3);
        x.mend(2, 1, 0);
        divided(x, 0, 0);
        NineOpinions y = Say.town(Say.code(3, 0, 0, 0, 0, 0), Say.code(1, 0, 0, 0, 0, 0));
        divided(y, 0, 1);
        y.mend(0, 1, 0);
        y.mend(1, 1, 0);
        divided(y, 0, 0);
    }

    private static void abn() {
        NineOpinions x = Say.town(0, 4095, 0);
        played(x, 11, -3, 0);
        played(x, 101, -3, 3);
        played(x, 121, -3, 3);
        played(x, 21, 0, 0);
        played(x, 201, 0, 0);
        played(x, 213, -3, 0);
        NineOpinions eight = Say.town(0, 0, 0, 0, 0, 0, 0, 4095);
        played(eight, 671, -3, 0);
        played(eight, 761, -3, 3);
        Check.each("unlike, byTurns", abn -> x.byTurns(abn, 0), VOID, 1, 2, 3, 111, 112, 222, 223);
    }

    private static void byTurnsWhat() {
        NineOpinions x = Say.town(0, 4095);
        Check.due("that", x.byTurns(11, 0), -3);
        Check.due("the first change", x.byTurns(101, 1), 3);
        Check.each("what", what -> x.byTurns(11, what), VOID, NEITHER);
    }

    private static void byTurnsRefused() {
        NineOpinions x = Say.town(0, 4095);
        int[] wrong = {
            LOW, -101, -11, -1, 0, 1, 10, 14, 19, 20, 21, 91, 100, 104, 111, 121, 201, 211, 811, 901, 1001, 1011, 10011, HIGH,
        };
        Check.each("byTurns", abn -> x.byTurns(abn, 0), VOID, wrong);
        Check.each("byTurns, the first change", abn -> x.byTurns(abn, 1), VOID, wrong);
        Check.each("of nobody, byTurns", abn -> new NineOpinions().byTurns(abn, 0), VOID, 11, 101);
        Check.each("of one, byTurns", abn -> Say.town(0).byTurns(abn, 0), VOID, 1, 11, 101);
    }

    /** Nothing on SHELF 0, a VIEW on 1, ROWS of shorts, ints, longs, booleans on 2 to 5; one of PEOPLE. */
    private static NineOpinions noBooks() {
        NineOpinions x = Say.town(0);
        x.keep(1, x.body(0));
        for (int sort = 1; sort <= 4; sort++) {
            x.row(sort + 1, sort, 2);
        }
        return x;
    }

    private static void judge() {
        NineOpinions x = Say.town(0, 1, 4095);
        for (int shelf = 0; shelf <= 5; shelf++) {
            Say.row(x, shelf, 0, 0, 1, 3, 0);
            x.put(shelf, 2, 3 - shelf / 3);
            int[] due = {0, 1, shelf / 3 == 0 ? NOT : 1};
            for (int one = 0; one <= 2; one++) {
                Check.due("judge(" + shelf + ", " + one + ")", x.judge(shelf, one), due[one]);
            }
        }
    }

    private static void judgeRefused() {
        NineOpinions x = noBooks();
        Check.each("judge of SHELF", s -> x.judge(s, 0), BAD, NO_SHELVES);
        Check.each("judge, one", one -> x.judge(0, one), BAD, LOW, -1, 1, 8, HIGH);
        Check.each("of both BAD first, of SHELF", s -> x.judge(s, 1), BAD, 0, 1, 2, 3, 4, 5);
        Check.due("of nothing", x.judge(0, 0), -11);
        Check.each("of SHELF", s -> x.judge(s, 0), -12, 1, 2, 3, 4, 5);
        x.row(0, 0, 2);
        Check.due("all is so", x.judge(0, 0), NOT);
    }

    private static void believesWhat() {
        NineOpinions x = book(new NineOpinions(), 4, 1, 8, 0, 9, 0);
        Check.due("how many", x.believes(5, 1, 0), 3);
        Check.due("the least", x.believes(5, 1, 1), 1);
        Check.due("none", x.believes(5, 2, 0), 0);
        Check.due("the least of none", x.believes(5, 2, 1), NOT);
    }

    private static void believesRefused() {
        NineOpinions x = noBooks();
        Check.each("believes of SHELF", s -> x.believes(s, 0, 0), BAD, NO_SHELVES);
        Check.each("believes, MATTER", m -> x.believes(0, m, 0), BAD, LOW, -1, 6, HIGH);
        Check.each("believes, what", what -> x.believes(0, 0, what), BAD, NEITHER);
        Check.each("of both BAD first, of SHELF", s -> x.believes(s, 6, 0), BAD, 0, 1, 2, 3, 4, 5);
        Check.each("of both BAD first, of SHELF", s -> x.believes(s, 5, 2), BAD, 0, 1, 2, 3, 4, 5);
        Check.due("of nothing", x.believes(0, 0, 1), -11);
        Check.each("of SHELF", s -> x.believes(s, 0, 1), -12, 1, 2, 3, 4, 5);
    }

    private static void whoseWhat() {
        NineOpinions x = book(three(), 0, 1, 4, 0);
        Check.due("WHOSE", x.whose(5, 0), 2);
        Check.due("CODES", x.whose(5, 1), 3 * 256);
    }

    private static void whoseRefused() {
        NineOpinions x = noBooks();
        Check.each("whose of SHELF", s -> x.whose(s, 0), BAD, NO_SHELVES);
        Check.each("whose, what", what -> x.whose(0, what), BAD, NEITHER);
        Check.each("of both BAD first, of SHELF", s -> x.whose(s, 2), BAD, 0, 1, 2, 3, 4, 5);
        Check.each("of nothing, what", what -> x.whose(0, what), -11, 0, 1);
        Check.each("of SHELF", s -> x.whose(s, 0), -12, 1, 2, 3, 4, 5);
        Check.each("CODES of SHELF", s -> x.whose(s, 1), -12, 1, 2, 3, 4, 5);
    }

    private static void agreeAb() {
        NineOpinions x = Say.town(0, 0, 0, 0, 0, 0, 0, 4095);
        Check.due("agree(7, 1)", x.agree(7, 1), 18);
        Check.due("agree(70, 1)", x.agree(70, 1), 18);
        Check.due("agree(77, 1)", x.agree(77, 1), 0);
        Check.due("agree(77, 0)", x.agree(77, 0), 6);
        Check.due("agree(67, 0)", x.agree(67, 0), 0);
        Check.due("agree(66, 0)", x.agree(66, 0), 6);
    }

    private static void agreeRefused() {
        NineOpinions x = Say.town(0, 0);
        Check.each("agree", ab -> x.agree(ab, 0), BAD, LOW, -10, -1, 2, 9, 12, 19, 20, 21, 100, 101, 110, HIGH);
        Check.each("how far", ab -> x.agree(ab, 1), BAD, LOW, -10, -1, 2, 9, 12, 19, 20, 21, 100, 101, 110, HIGH);
        Check.each("agree, what", what -> x.agree(1, what), BAD, NEITHER);
        Check.each("of nobody, agree", ab -> new NineOpinions().agree(ab, 0), BAD, 0, 1, 10);
    }

    private static void likeRefused() {
        NineOpinions x = Say.town(0);
        Check.each("like", x::like, BAD, LOW, -1, 1, 8, HIGH);
        Check.due("of nobody, not NOT", new NineOpinions().like(0), BAD);
        Check.due("nobody else", x.like(0), NOT);
    }

    private static void splitWhat() {
        NineOpinions x = Say.town(Say.code(3, 3, 3, 3, 3, 2), Say.code(3, 3, 3, 3, 3, 1));
        Check.due("which", x.split(0), 5);
        Check.due("that VIEW", x.split(1), 1);
    }

    private static void splitRefused() {
        Check.each("split", Say.town(0)::split, BAD, NEITHER);
        Check.each("of nobody, split", new NineOpinions()::split, BAD, NEITHER);
    }
}
