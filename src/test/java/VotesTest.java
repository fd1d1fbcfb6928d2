/** Promises 13 to 15 and 20 to 22. */
public final class VotesTest {
    private static final int BAD = NineOpinions.BAD, NOT = NineOpinions.NOT;

    public static void main(String[] args) {
        mayBeStruck();
        nobodysAndUntold();
        winning();
        matters();
        agreeing();
        likeness();
        splitting();
        Check.end("VotesTest");
    }

    private static void mayBeStruck() {
        NineOpinions x = Say.town(0, 1, 1, 1);
        Say.written(x, 0, 1, 3, 4);
        Check.due(13, "three of four, and all", x.lines(0), Say.bits(0, 3));
        x.mend(0, 1, 3);
        Check.due(13, "half is not more than half", x.lines(0), Say.bits(3));
        x.mend(0, 1, 4);
        Check.due(13, "STANDING counts", x.lines(0), Say.bits(1, 3));
        for (int one = 0; one < 4; one++) {
            x.mend(one, 1, 0);
        }
        Check.due(13, "nobody has STANDING", x.lines(0), 0);
        Check.due(13, "lines(3)", x.lines(3), BAD);
        Check.due(13, "lines(-1)", x.lines(-1), BAD);
        Check.due(13, "nobody there", Say.written(new NineOpinions(), 5).lines(0), 0);
    }

    private static void nobodysAndUntold() {
        NineOpinions x = Say.town(Say.code(0, 1, 2, 3, 0, 1), Say.code(0, 2, 2, 3, 0, 3));
        Say.written(x, 0, 1, 6, 23, 22);
        Check.due(13, "NOBODY'S", x.lines(1), Say.bits(1, 22));
        Check.due(13, "UNTOLD", x.lines(2), Say.bits(5, 10, 15, 16, 21));
        NineOpinions empty = Say.written(new NineOpinions(), 7);
        Check.due(13, "NOBODY'S without PEOPLE", empty.lines(1), Say.bits(7));
        Check.due(13, "UNTOLD without PEOPLE", empty.lines(2), 0);
    }

    private static void winning() {
        NineOpinions x = Say.town(0, 0, 0, 1);
        Check.due(14, "how many of three", x.win(0, 0), 2);
        Check.due(14, "the least two", x.win(0, 1), 3);
        Check.due(14, "one of one is none too many", x.win(1, 0), 0);
        Check.due(14, "nobody need be won", x.win(1, 1), 0);
        x.mend(2, 1, 9);
        Check.due(14, "one of much STANDING", x.win(0, 0), 1);
        Check.due(14, "that one", x.win(0, 1), 4);
        x.mend(0, 1, 9);
        x.mend(3, 1, 0);
        Check.due(14, "of two alike none alone", x.win(0, 0), 2);
        Check.due(14, "the least", x.win(0, 1), 3);
        x.mend(1, 1, 9);
        Check.due(14, "half is not more", x.win(0, 0), 2);
        for (int one = 0; one < 4; one++) {
            x.mend(one, 1, 0);
        }
        Check.due(14, "not even all", x.win(0, 0), NOT);
        Check.due(14, "not even all, who", x.win(0, 1), NOT);
        Check.due(14, "win(-1, 0)", x.win(-1, 0), BAD);
        Check.due(14, "win(24, 0)", x.win(24, 0), BAD);
        Check.due(14, "win(0, 2)", x.win(0, 2), BAD);
        Check.due(14, "nobody there", new NineOpinions().win(0, 0), NOT);
        NineOpinions eight = Say.town(0, 0, 0, 0, 0, 0, 0, 0);
        Check.due(14, "five of eight", eight.win(0, 0), 5);
        Check.due(14, "the least five", eight.win(0, 1), 31);
    }

    private static void matters() {
        NineOpinions x = Say.written(new NineOpinions(), 0, 3, 5, 8, 11, 9, 16, 17);
        Check.due(15, "SILENT", x.matters(0), Say.bits(3, 5));
        Check.due(15, "opposites", x.matters(1), Say.bits(0, 2));
        Check.due(15, "one alone", x.matters(2), Say.bits(1));
        Check.due(15, "matters(3)", x.matters(3), BAD);
        Check.due(15, "matters(-1)", x.matters(-1), BAD);
        Check.due(15, "all are SILENT", new NineOpinions().matters(0), 63);
    }

    private static void agreeing() {
        NineOpinions x = Say.town(Say.code(0, 1, 2, 3, 0, 1), Say.code(0, 2, 2, 0, 3, 1));
        Check.due(20, "how many", x.agree(1, 0), 3);
        Check.due(20, "how far", x.agree(1, 1), 7);
        Check.due(20, "the other way round", x.agree(10, 1), 7);
        Check.due(20, "one with himself", x.agree(11, 0), 6);
        Check.due(20, "no way from himself", x.agree(11, 1), 0);
        int[][] wrong = {{2, 0}, {20, 0}, {-1, 0}, {-10, 0}, {8, 0}, {100, 0}, {110, 1}, {1, 2}, {1, -1}};
        for (int[] call : wrong) {
            Check.due(20, "agree(" + call[0] + ", " + call[1] + ")", x.agree(call[0], call[1]), BAD);
        }
    }

    private static void likeness() {
        NineOpinions x = Say.town(Say.code(1, 1, 1, 1, 1, 1));
        Check.due(21, "nobody else", x.like(0), NOT);
        Check.due(21, "like(1)", x.like(1), BAD);
        Check.due(21, "like(-1)", x.like(-1), BAD);
        x.person(Say.code(3, 3, 1, 1, 1, 1));
        x.person(Say.code(0, 0, 0, 1, 1, 1));
        x.person(Say.code(2, 2, 2, 1, 1, 1));
        Check.due(21, "of like ones the least", x.like(0), 2);
        Check.due(21, "like(1)", x.like(1), 3);
        Check.due(21, "like(2)", x.like(2), 0);
        Check.due(21, "like(3)", x.like(3), 0);
        Check.due(21, "BAD, not NOT", new NineOpinions().like(0), BAD);
    }

    private static void splitting() {
        NineOpinions x = Say.town(Say.code(0, 1, 2, 3, 0, 0), Say.code(0, 1, 2, 3, 1, 0), Say.code(0, 1, 1, 2, 2, 3));
        Check.due(22, "which", x.split(0), 4);
        Check.due(22, "that VIEW", x.split(1), 0);
        x.mend(2, 1, 3);
        Check.due(22, "STANDING counts: of like MATTERS the least", x.split(0), 2);
        Check.due(22, "its commonest VIEW", x.split(1), 1);
        x.mend(2, 1, 2);
        x.mend(1, 1, 0);
        Check.due(22, "MATTERS alike", x.split(0), 2);
        Check.due(22, "the VIEW of more STANDING", x.split(1), 1);
        NineOpinions empty = new NineOpinions();
        Check.due(22, "nobody: MATTER 0", empty.split(0), 0);
        Check.due(22, "nobody: VIEW 0", empty.split(1), 0);
        Check.due(22, "split(2)", empty.split(2), BAD);
        Check.due(22, "split(-1)", empty.split(-1), BAD);
    }
}
