/** Promises 17 to 19: a BOOK on a SHELF. */
public final class BooksTest {
    private static final int BAD = NineOpinions.BAD, NOT = NineOpinions.NOT;

    public static void main(String[] args) {
        judging();
        believing();
        whose();
        refusals();
        Check.end("BooksTest");
    }

    private static int judged(long... bytes) {
        NineOpinions x = Say.town(Say.code(0, 1, 2, 3, 0, 1));
        Say.row(x, 3, 0, bytes);
        return x.judge(3, 0);
    }

    private static void judging() {
        Check.due(17, "an empty BOOK", judged(), NOT);
        Check.due(17, "all so", judged(0, 0, 1, 1, 5, 0, 23, 1, 15, 0), NOT);
        Check.due(17, "the first is not so", judged(0, 1, 1, 0), 0);
        Check.due(17, "the second, by twos", judged(0, 0, 1, 0, 5, 1), 1);
        Check.due(17, "the third", judged(0, 0, 1, 1, 5, 1), 2);
        Check.due(17, "no such LINE", judged(0, 0, 24, 1), 1);
        Check.due(17, "a LINE below 0", judged(-1, 1), 0);
        Check.due(17, "neither 1 nor 0", judged(0, 0, 0, 0, 1, 2), 2);
        Check.due(17, "-1 is not 1", judged(1, -1), 0);
        Check.due(17, "lacking", judged(0, 0, 1), 1);
        Check.due(17, "lacking all along", judged(0), 0);
        Check.due(17, "of several the first", judged(0, 0, 30, 0, 1), 1);
        NineOpinions x = Say.town(0, 1);
        x.row(0, 0, 60);
        Check.due(17, "thirty twos are so", x.judge(0, 0), NOT);
        x.put(0, 59, 1);
        Check.due(17, "the thirtieth is not", x.judge(0, 0), 29);
        Check.due(17, "of another one", x.judge(0, 1), 0);
    }

    private static void believing() {
        NineOpinions x = new NineOpinions();
        Say.row(x, 0, 0, 0, 1, 6, 0, 9, 1, 10, 1, 12, 0, 13, 0, 2, 1, 24, 0);
        int[] many = {2, 1, 2, 0, 4, 4};
        int[] least = {1, 2, 0, NOT, 0, 0};
        for (int matter = 0; matter < 6; matter++) {
            Check.due(18, "how many of MATTER " + matter, x.believes(0, matter, 0), many[matter]);
            Check.due(18, "the least of MATTER " + matter, x.believes(0, matter, 1), least[matter]);
        }
        Say.row(x, 0, 0, 0, 1, 1, 1, 2, 1);
        Check.due(18, "one is left", x.believes(0, 0, 0), 1);
        Check.due(18, "VIEW 3", x.believes(0, 0, 1), 3);
        Say.row(x, 0, 0, 0, 2);
        Check.due(18, "neither 1 nor 0", x.believes(0, 0, 0), 0);
        Say.row(x, 0, 0, 4, 0, 1);
        Check.due(18, "lacking", x.believes(0, 0, 0), 0);
        Check.due(18, "lacking, the least", x.believes(0, 0, 1), NOT);
        Check.due(18, "another MATTER's is not lacking", x.believes(0, 1, 0), 1);
    }

    private static void whose() {
        NineOpinions x = Say.town(0, Say.code(1, 0, 0, 0, 0, 0), Say.code(1, 2, 0, 0, 0, 3));
        x.row(0, 0, 0);
        Check.due(19, "an empty BOOK may be all's", x.whose(0, 0), 7);
        Check.due(19, "all CODES", x.whose(0, 1), 4096);
        Say.row(x, 0, 0, 0, 1);
        Check.due(19, "of those who do not believe it", x.whose(0, 0), 6);
        Check.due(19, "three of four", x.whose(0, 1), 3072);
        Say.row(x, 0, 0, 0, 1, 6, 0, 23, 0);
        Check.due(19, "one's", x.whose(0, 0), 4);
        Check.due(19, "CODES", x.whose(0, 1), 3 * 64);
        Say.row(x, 0, 0, 0, 0, 1, 0);
        Check.due(19, "nobody's", x.whose(0, 0), 0);
        Check.due(19, "no CODES", x.whose(0, 1), 0);
        Say.row(x, 0, 0, 0, 1, 24, 1);
        Check.due(19, "no such LINE is nobody's", x.whose(0, 0), 0);
        Check.due(19, "no such LINE: no CODES", x.whose(0, 1), 0);
        Say.row(x, 0, 0, 0, 1, 5);
        Check.due(19, "lacking is nobody's", x.whose(0, 0), 0);
        Check.due(19, "lacking: no CODES", x.whose(0, 1), 0);
    }

    private static void refusals() {
        NineOpinions x = Say.town(0);
        x.row(1, 1, 4);
        x.keep(2, x.body(0));
        int[] shelves = {0, 1, 2};
        int[] due = {-11, -12, -12};
        for (int shelf : shelves) {
            Check.due(17, "judge of SHELF " + shelf, x.judge(shelf, 0), due[shelf]);
            Check.due(18, "believes of SHELF " + shelf, x.believes(shelf, 0, 0), due[shelf]);
            Check.due(19, "whose of SHELF " + shelf, x.whose(shelf, 0), due[shelf]);
            Check.due(17, "BAD ahead", x.judge(shelf, 1), BAD);
            Check.due(18, "BAD ahead", x.believes(shelf, 6, 0), BAD);
            Check.due(18, "BAD ahead", x.believes(shelf, -1, 0), BAD);
            Check.due(18, "BAD ahead", x.believes(shelf, 0, 2), BAD);
            Check.due(19, "BAD ahead", x.whose(shelf, 2), BAD);
            Check.due(19, "BAD ahead", x.whose(shelf, -1), BAD);
        }
        Check.due(17, "judge(6, 0)", x.judge(6, 0), BAD);
        Check.due(17, "judge(0, -1)", x.judge(0, -1), BAD);
        Check.due(18, "believes(-1, 0, 0)", x.believes(-1, 0, 0), BAD);
        Check.due(19, "whose(6, 0)", x.whose(6, 0), BAD);
    }
}
