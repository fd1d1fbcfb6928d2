/** Promises 8 to 12 and 23: boards in thought. */
public final class ThoughtTest {
    private static final int BAD = NineOpinions.BAD, NOT = NineOpinions.NOT;

    public static void main(String[] args) {
        minding();
        changing();
        eachCallThinksAnew();
        costThinksAnew();
        nearest();
        nearestOfLikeOnes();
        cost();
        helps();
        drawn();
        drawnWithChalk();
        Check.end("ThoughtTest");
    }

    private static void minding() {
        NineOpinions x = Say.town(0, Say.code(3, 0, 0, 0, 0, 0));
        Say.written(x, 1, 4);
        Check.due(8, "minds(0, 0)", x.minds(0, 0), 1);
        Check.due(8, "minds(1, 0)", x.minds(1, 0), 2);
        Check.due(8, "minds(8, 0)", x.minds(8, 0), 3);
        Check.due(8, "minds(0, 1)", x.minds(0, 1), 0);
        Check.due(8, "minds(0, 6)", x.minds(0, 6), 17);
        Check.due(8, "minds(8, 6)", x.minds(8, 6), 35);
        Check.due(8, "minds(2, 0)", x.minds(2, 0), BAD);
        Check.due(8, "minds(-1, 0)", x.minds(-1, 0), BAD);
        Check.due(8, "minds(9, 0)", x.minds(9, 0), BAD);
        Check.due(8, "minds(0, 7)", x.minds(0, 7), BAD);
        Check.due(8, "minds(0, -1)", x.minds(0, -1), BAD);
        theLesserOfTwoAlikeNear();
    }

    private static void theLesserOfTwoAlikeNear() {
        NineOpinions x = Say.town(Say.code(1, 0, 0, 0, 0, 0));
        Say.written(x, 0, 2);
        x.mend(0, 2, 3);
        x.mend(2, 2, 8);
        Say.law(x, "w");
        Check.due(8, "WORN of the lesser", x.minds(0, 0), 3);
        x.write(1);
        Check.due(8, "WORN of his own VIEW", x.minds(0, 0), 0);
    }

    private static void changing() {
        NineOpinions x = Say.town(0);
        x.write(1);
        Check.due(9, "one that comes", x.ifLine(0), 20);
        Check.due(9, "one that goes", x.ifLine(1), 24);
        Check.due(9, "one that is farther off", x.ifLine(3), 21);
        Check.due(9, "one of another MATTER", x.ifLine(23), 20);
        Check.due(9, "ifLine(-1)", x.ifLine(-1), BAD);
        Check.due(9, "ifLine(24)", x.ifLine(24), BAD);
        Check.due(9, "nothing is changed", x.board(0), 2);
        x.mend(0, 3, 1);
        Check.due(9, "whatever ROOM", x.ifLine(0), 20);
        Say.law(x, "w");
        x.mend(0, 2, 9);
        x.mend(1, 2, 5);
        Check.due(9, "WORN now", x.minds(0, 0), 5);
        Check.due(9, "it is WORN 0", x.ifLine(0), 0);
        Check.due(9, "those that stand stay WORN", x.ifLine(2), 5);
        Check.due(9, "none is WORN", x.ifLine(1), 0);
    }

    /** What was thought ahead of a change counts no more behind it. */
    private static void eachCallThinksAnew() {
        NineOpinions x = Say.town(0);
        Check.due(9, "ifLine(0)", x.ifLine(0), 20);
        x.mend(0, 0, 1);
        Check.due(9, "behind a change of BELIEF", x.ifLine(0), 21);
        x.write(1);
        Check.due(9, "behind a deed", x.ifLine(0), 20);
        x.mend(1, 2, 6);
        Say.law(x, "w+1");
        Check.due(9, "behind a LAW", x.ifLine(0), 12);
        x.mend(1, 2, 5);
        Check.due(9, "behind a change of WORN", x.ifLine(4), 11);
        Check.due(11, "cost(0, 1)", x.cost(0, 1), 6);
        x.mend(0, 0, 0);
        Check.due(12, "helps(1)", x.helps(1), 6);
        x.write(0);
        Check.due(12, "nothing helps", x.helps(1), NOT);
        Check.due(10, "board(1)", x.board(1), 6);
        x.person(0);
        Check.due(10, "behind one who came", x.board(1), 12);
        Check.due(8, "minds(1, 6)", x.minds(1, 6), 6);
        Check.due(8, "minds(8, 6)", x.minds(8, 6), 12);
        x.mend(1, 0, 1);
        Check.due(16, "of one who MINDS more", x.byTurns(11, 0), -5);
        Check.due(23, "a day of no ROOM", roomForNone(x).drawn(0, 101, -1), 12);
    }

    private static void costThinksAnew() {
        NineOpinions x = Say.written(Say.town(0), 1, 5);
        Check.due(11, "of like ones the least", x.cost(8, 0), 1);
        x.mend(0, 0, 1);
        Check.due(11, "behind a change of BELIEF", x.cost(8, 0), 5);
        x.mend(0, 0, 4);
        Check.due(11, "behind another one", x.cost(8, 0), 1);
    }

    private static NineOpinions roomForNone(NineOpinions x) {
        x.strike(0);
        x.strike(1);
        x.write(23);
        x.mend(0, 3, 1);
        return x;
    }

    private static void nearest() {
        NineOpinions x = Say.town(Say.code(0, 1, 2, 3, 0, 1), Say.code(3, 1, 2, 0, 0, 1));
        int wanted = Say.bits(0, 3, 5, 10, 12, 15, 16, 21);
        Say.written(x, 1, 5, 23);
        Check.due(10, "THE BOARD", x.board(0), Say.bits(1, 5, 23));
        Check.due(10, "how much", x.board(1), 0);
        Check.due(10, "which", x.board(2), wanted);
        Check.due(10, "strokes", x.board(3), 9);
        x.mend(0, 3, 2);
        Check.due(10, "with ROOM for two", x.board(1), 32);
        Check.due(10, "the least two", x.board(2), Say.bits(5, 10));
        Check.due(10, "strokes to them", x.board(3), 3);
        Check.due(10, "board(-1)", x.board(-1), BAD);
        Check.due(10, "board(4)", x.board(4), BAD);
        Check.due(10, "THE BOARD stays", x.board(0), Say.bits(1, 5, 23));
    }

    private static void nearestOfLikeOnes() {
        NineOpinions x = Say.town(0);
        Say.written(x, 0, 20);
        Check.due(10, "all VIEWS 0", x.board(2), 0x111111);
        x.mend(0, 3, 1);
        Check.due(10, "the least of six", x.board(2), 1);
        Say.law(x, "w+3*(k=0)");
        x.mend(0, 3, 9);
        x.mend(0, 2, 5);
        Check.due(10, "those that stand are as WORN as they are", x.board(2), 0x111112);
        Check.due(10, "nobody MINDS the others", x.board(1), 0);
        Say.law(x, "k*5");
        Check.due(10, "none at all", x.board(2), 0);
        Check.due(10, "all are struck", x.board(3), 2);
    }

    private static void cost() {
        NineOpinions x = Say.town(Say.code(0, 0, 0, 0, 0, 0), Say.code(1, 0, 0, 0, 0, 0));
        Check.due(11, "none stands", x.cost(0, 0), NOT);
        Check.due(11, "none stands, how much", x.cost(0, 1), NOT);
        Say.written(x, 0, 7, 8);
        Check.due(11, "which", x.cost(1, 0), 0);
        Check.due(11, "how much", x.cost(1, 1), 31);
        Check.due(11, "its own MATTER's", x.cost(4, 0), 7);
        Check.due(11, "its own MATTER's, how much", x.cost(4, 1), 25);
        Check.due(11, "it stands", x.cost(8, 0), NOT);
        Check.due(11, "it stands, how much", x.cost(8, 1), NOT);
        Check.due(11, "cost(24, 0)", x.cost(24, 0), BAD);
        Check.due(11, "cost(-1, 0)", x.cost(-1, 0), BAD);
        Check.due(11, "cost(1, 2)", x.cost(1, 2), BAD);
        Check.due(11, "cost(8, 2): BAD ahead of NOT", x.cost(8, 2), BAD);
        x.mend(0, 3, 1);
        Check.due(11, "ROOM does not count", x.cost(4, 0), 7);
        Say.law(x, "0");
        Check.due(11, "of like ones the least", x.cost(1, 0), 0);
    }

    private static void helps() {
        NineOpinions x = Say.town(Say.code(1, 0, 0, 0, 0, 0), Say.code(2, 0, 0, 0, 0, 0));
        Say.written(x, 8, 12);
        Check.due(12, "which", x.helps(0), 4);
        Check.due(12, "how much", x.helps(1), 24);
        x.mend(0, 3, 2);
        Check.due(12, "no ROOM", x.helps(0), NOT);
        Check.due(12, "no ROOM, how much", x.helps(1), NOT);
        Say.law(x, "k");
        Check.due(12, "a stroke", x.helps(0), 8);
        Check.due(12, "a stroke, how much", x.helps(1), 2);
        Check.due(12, "helps(2)", x.helps(2), BAD);
        Check.due(12, "helps(-1)", x.helps(-1), BAD);
        Say.law(x, "5");
        Check.due(12, "less than now", x.helps(0), NOT);
    }

    private static void drawn() {
        NineOpinions x = Say.town(0);
        // of SEED 0 the first LINES are 0, 6, 16, 22
        int[] strokes = firstLines(0, 4);
        Check.due(23, "the first LINE of SEED 0", strokes[0], 0);
        for (int m = 1; m <= 4; m++) {
            for (int line = 0; line < 24; line++) {
                int stands = 0;
                for (int i = 0; i < m; i++) {
                    stands ^= strokes[i] == line ? 1 : 0;
                }
                Check.due(23, "drawn(0, 10" + m + ", " + line + ")", x.drawn(0, 100 + m, line), stands);
            }
        }
        Check.due(23, "MINDS on a day with LINE 0", x.drawn(0, 101, -1), 20);
        Check.due(23, "THE BOARD stays", x.board(0), 0);
        int[][] wrong = {
            {1, -1}, {0, -1}, {100, -1}, {131, -1}, {3101, -1}, {3130, 0}, {-101, -1}, {101, -2}, {101, 24},
        };
        for (int[] call : wrong) {
            Check.due(23, "drawn(0, " + call[0] + ", " + call[1] + ")", x.drawn(0, call[0], call[1]), BAD);
        }
        Check.due(23, "thirty days with nobody", new NineOpinions().drawn(-5, 3030, -1), 0);
    }

    /** Each day begins from THE BOARD now; the SEED goes on. */
    private static void drawnWithChalk() {
        NineOpinions x = Say.town(0);
        int[] lines = firstLines(99, 3);
        int sum = 0;
        for (int day = 0; day < 3; day++) {
            sum += lines[day] % 4 == 0 ? 20 : 20 + lines[day] % 4;
            Check.due(23, "a day of one LINE", x.drawn(99, 301, lines[day]) > 0 ? 1 : 0, 1);
        }
        Check.due(23, "three days of one LINE", x.drawn(99, 301, -1), sum);
        x.write(lines[0]);
        x.mend(0, 3, 1);
        Check.due(23, "the one that stands is struck", x.drawn(99, 101, lines[0]), 0);
        x.strike(lines[0]);
        x.write((lines[0] + 1) % 24);
        Check.due(23, "no ROOM: nothing is written", x.drawn(99, 101, lines[0]), 0);
    }

    private static int[] firstLines(int seed, int n) {
        int[] lines = new int[n];
        int z = seed;
        for (int i = 0; i < n; i++) {
            z = z * 1103515245 + 12345;
            lines[i] = (z >>> 8) % 24;
        }
        return lines;
    }
}
