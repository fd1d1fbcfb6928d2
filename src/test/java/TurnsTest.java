/** Promise 16: BY TURNS. */
public final class TurnsTest {
    private static final int VOID = NineOpinions.VOID;

    public static void main(String[] args) {
        wrongOnes();
        oneChange();
        rewrittenIsNotWorn();
        room();
        Check.end("TurnsTest");
    }

    private static void wrongOnes() {
        NineOpinions x = Say.town(0, 4095);
        int[][] wrong = {
            {1, 2}, {11, -1}, {11, 2}, {10, 0}, {14, 0}, {19, 0}, {1, 0}, {111, 0}, {21, 0}, {201, 0}, {-11, 0}, {-1, 0},
            {1011, 0}, {811, 1}, {Integer.MIN_VALUE, 0}, {Integer.MAX_VALUE, 0},
        };
        for (int[] call : wrong) {
            Check.due(16, "byTurns(" + call[0] + ", " + call[1] + ")", x.byTurns(call[0], call[1]), VOID);
        }
        Check.due(16, "one alone", Say.town(0).byTurns(1, 0), VOID);
    }

    private static void oneChange() {
        NineOpinions x = Say.town(Say.code(0, 0, 0, 0, 0, 0), Say.code(3, 1, 0, 0, 0, 0));
        // LINE 0: 0 less 3; LINE 4: 0 less 1
        Check.due(16, "the best for 0", x.byTurns(11, 0), -3);
        Check.due(16, "his LINE", x.byTurns(11, 1), 0);
        Check.due(16, "the best for 1", x.byTurns(101, 0), -3);
        Check.due(16, "his LINE", x.byTurns(101, 1), 3);
        Check.due(16, "then the other's: 0 less 0, 0 less 1", x.byTurns(12, 0), 0);
        Check.due(16, "of like ones the least", x.byTurns(12, 1), 0);
        Check.due(16, "THE BOARD stays", x.board(0), 0);
        Check.due(16, "nothing is LED", x.led(0), 0);
        NineOpinions same = Say.town(5, 5);
        Check.due(16, "alike: nothing to gain", same.byTurns(11, 0), 0);
        Check.due(16, "alike: the least change", same.byTurns(11, 1), 0);
    }

    /** A STANDING of 0 makes the other one MIND nothing: so the end is what WORN there is for the one. */
    private static void rewrittenIsNotWorn() {
        NineOpinions x = Say.written(Say.town(0, 0), 0);
        x.mend(0, 2, 5);
        x.mend(0, 3, 1);
        x.mend(1, 1, 0);
        Say.law(x, "w*s");
        Check.due(16, "he strikes it", x.byTurns(11, 0), 0);
        Check.due(16, "a stroke", x.byTurns(11, 1), 0);
        Check.due(16, "the other one leaves it", x.byTurns(101, 0), -5);
        Check.due(16, "nothing", x.byTurns(101, 1), 24);
        Check.due(16, "then it is struck", x.byTurns(102, 0), 0);
        Check.due(16, "written again it is WORN 0", x.byTurns(103, 0), 0);
    }

    private static void room() {
        NineOpinions x = Say.written(Say.town(Say.code(0, 0, 0, 0, 0, 0), Say.code(3, 0, 0, 0, 0, 0)), 4, 8);
        x.mend(0, 3, 2);
        Check.due(16, "no ROOM to write", x.byTurns(11, 0), 0);
        Check.due(16, "strokes and nothing are alike: the least", x.byTurns(11, 1), 4);
        Check.due(16, "he strikes nothing where the other one would write", x.byTurns(12, 0), 0);
        Check.due(16, "nothing at all", x.byTurns(12, 1), 24);
        x.mend(0, 3, 3);
        Check.due(16, "there is ROOM", x.byTurns(11, 0), -3);
        Check.due(16, "for LINE 0", x.byTurns(11, 1), 0);
        Check.due(16, "the ROOM is taken then", x.byTurns(12, 0), 0);
        Check.due(16, "the first takes what the other one wants", x.byTurns(12, 1), 0);
    }
}
