/** Promises 2 to 5. */
public final class PeopleTest {
    private static final int BAD = NineOpinions.BAD;

    public static void main(String[] args) {
        persons();
        peopleFromRows();
        wherePeopleEnd();
        placesThatAreNotThere();
        mending();
        telling();
        Check.end("PeopleTest");
    }

    private static void persons() {
        NineOpinions x = new NineOpinions();
        Check.due(2, "person(-1)", x.person(-1), BAD);
        Check.due(2, "person(4096)", x.person(4096), BAD);
        Check.due(2, "nobody came", x.count(0), 0);
        for (int i = 0; i < 8; i++) {
            Check.due(2, "person(585 * i)", x.person(585 * i), i);
            Check.due(2, "BELIEF of it", x.of(i, 0), 585 * i);
            Check.due(2, "STANDING of it", x.of(i, 1), 1);
        }
        Check.due(2, "the ninth", x.person(0), NineOpinions.FULL);
        Check.due(2, "BAD is named ahead of FULL", x.person(-1), BAD);
        Check.due(2, "count(0)", x.count(0), 8);
    }

    private static void peopleFromRows() {
        NineOpinions x = new NineOpinions();
        Check.due(3, "of nothing", x.people(0, 0, 1), 0);
        Say.row(x, 0, 1, 7, 100, 2, 4095, 0, 0, 9);
        Check.due(3, "people(6, 0, 1)", x.people(6, 0, 1), BAD);
        Check.due(3, "people(-1, 0, 1)", x.people(-1, 0, 1), BAD);
        Check.due(3, "people(0, 0, 0)", x.people(0, 0, 0), BAD);
        Check.due(3, "people(0, 0, 9)", x.people(0, 0, 9), BAD);
        Check.due(3, "nobody came yet", x.count(0), 0);
        Check.due(3, "people(0, 1, 2)", x.people(0, 1, 2), 2);
        Check.due(3, "BELIEF of 0", x.of(0, 0), 100);
        Check.due(3, "STANDING of 0", x.of(0, 1), 2);
        Check.due(3, "BELIEF of 1", x.of(1, 0), 4095);
        Check.due(3, "STANDING of 1", x.of(1, 1), 0);
        Check.due(3, "people(0, 5, 8)", x.people(0, 5, 8), 1);
        Check.due(3, "STANDING of 2", x.of(2, 1), 9);
        Check.due(3, "they are no changes", x.count(3), 0);
        x.row(1, 0, 4);
        Check.due(3, "a ROW of bytes", x.people(1, 0, 1), -12);
        x.keep(2, x.body(0));
        Check.due(3, "a VIEW", x.people(2, 0, 1), -12);
        Check.due(3, "BAD ahead of -12", x.people(1, 0, 9), BAD);
        x.keep(2, -1);
        Check.due(3, "nothing again", x.people(2, 0, 1), 0);
    }

    private static void wherePeopleEnd() {
        NineOpinions x = new NineOpinions();
        Say.row(x, 0, 1, 5, 5, 6);
        Check.due(3, "ends within a two", x.people(0, 0, 3), 1);
        Check.due(3, "at the end", x.people(0, 3, 3), 0);
        Check.due(3, "behind the end", x.people(0, 60, 3), 0);
        Check.due(3, "far behind the end", x.people(0, Integer.MAX_VALUE, 8), 0);
        Say.row(x, 0, 1, 1, 1, 4096, 1, 2, 1);
        Check.due(3, "a BELIEF of 4096", x.people(0, 0, 3), 1);
        Say.row(x, 0, 1, -1, 1);
        Check.due(3, "a BELIEF of -1", x.people(0, 0, 1), 0);
        Say.row(x, 0, 1, 3, 10);
        Check.due(3, "a STANDING of 10", x.people(0, 0, 1), 0);
        Say.row(x, 0, 1, 3, -1);
        Check.due(3, "a STANDING of -1", x.people(0, 0, 1), 0);
        Say.row(x, 0, 1, new long[16]);
        Check.due(3, "until PEOPLE are FULL", x.people(0, 0, 8), 6);
        Check.due(3, "PEOPLE are FULL", x.people(0, 0, 8), 0);
        Check.due(3, "eight came", x.count(0), 8);
    }

    /** A place has no range: nobody comes from one that is not there, and what else is refused is refused at it, too. */
    private static void placesThatAreNotThere() {
        NineOpinions x = new NineOpinions();
        Say.row(x, 0, 1, 1, 1, 2, 1, 3, 1);
        x.row(1, 1, 0);
        x.row(2, 2, 6);
        x.keep(3, x.body(0));
        int[] places = {Integer.MIN_VALUE, Integer.MIN_VALUE + 1, -60, -3, -2, -1, 6, 7, 60, Integer.MAX_VALUE};
        for (int i : places) {
            Check.due(3, "of a ROW, from " + i, x.people(0, i, 8), 0);
            Check.due(3, "one of a ROW, from " + i, x.people(0, i, 1), 0);
            Check.due(3, "of a ROW of none, from " + i, x.people(1, i, 3), 0);
            Check.due(3, "of nothing, from " + i, x.people(5, i, 3), 0);
            Check.due(3, "of ints, from " + i, x.people(2, i, 3), -12);
            Check.due(3, "of a VIEW, from " + i, x.people(3, i, 3), -12);
            Check.due(3, "none of nothing, from " + i, x.people(5, i, 0), BAD);
            Check.due(3, "nine of ints, from " + i, x.people(2, i, 9), BAD);
            Check.due(3, "on no SHELF, from " + i, x.people(6, i, 3), BAD);
        }
        Check.due(3, "nobody came", x.count(0), 0);
        Check.due(3, "from the last place there is", x.people(0, 4, 8), 1);
    }

    private static void mending() {
        NineOpinions x = Say.town(10, 20);
        Check.due(4, "BELIEF", x.mend(1, 0, 4095), 20);
        Check.due(4, "BELIEF then", x.of(1, 0), 4095);
        Check.due(4, "BELIEF of the other", x.of(0, 0), 10);
        Check.due(4, "STANDING", x.mend(0, 1, 9), 1);
        Check.due(4, "STANDING then", x.mend(0, 1, 0), 9);
        Check.due(4, "WORN", x.mend(23, 2, 9), 0);
        Check.due(4, "WORN then", x.mend(23, 2, 9), 9);
        Check.due(4, "ROOM", x.mend(0, 3, 1), 9);
        Check.due(4, "ROOM then", x.mend(0, 3, 9), 1);
        int[][] wrong = {
            {2, 0, 0}, {-1, 0, 0}, {0, 0, -1}, {0, 0, 4096}, {2, 1, 0}, {0, 1, -1}, {0, 1, 10}, {-1, 2, 0},
            {24, 2, 0}, {0, 2, -1}, {0, 2, 10}, {1, 3, 5}, {-1, 3, 5}, {0, 3, 0}, {0, 3, 10}, {0, 4, 1}, {0, -1, 1},
        };
        for (int[] call : wrong) {
            Check.due(4, "mend(" + call[0] + ", " + call[1] + ", " + call[2] + ")",
                x.mend(call[0], call[1], call[2]), BAD);
        }
        wornIsKept();
        roomIsToldLess();
    }

    private static void wornIsKept() {
        NineOpinions x = new NineOpinions();
        x.mend(5, 2, 7);
        x.write(5);
        Check.due(4, "WORN of a LINE written anew", x.of(5, 2), 0);
        x.mend(5, 2, 4);
        x.strike(5);
        Check.due(4, "WORN of a LINE struck", x.of(5, 2), 4);
    }

    private static void roomIsToldLess() {
        NineOpinions x = Say.written(new NineOpinions(), 0, 1, 2);
        x.mend(0, 3, 2);
        Check.due(4, "more stay", x.count(1), 3);
        Check.due(4, "nothing can be written", x.write(3), NineOpinions.STATE);
        x.strike(0);
        Check.due(4, "nor with just as many", x.write(3), NineOpinions.STATE);
        x.strike(1);
        Check.due(4, "there is ROOM", x.write(3), 2);
    }

    private static void telling() {
        NineOpinions x = Say.written(Say.town(77), 9);
        Check.due(5, "BELIEF", x.of(0, 0), 77);
        Check.due(5, "STANDING", x.of(0, 1), 1);
        Check.due(5, "WORN", x.of(9, 2), 0);
        Check.due(5, "ROOM", x.of(0, 3), 9);
        Check.due(5, "it stands", x.of(9, 4), 1);
        Check.due(5, "it does not stand", x.of(8, 4), 0);
        int[][] wrong = {{1, 0}, {-1, 0}, {1, 1}, {24, 2}, {-1, 2}, {1, 3}, {24, 4}, {-1, 4}, {0, 5}, {0, -1}};
        for (int[] call : wrong) {
            Check.due(5, "of(" + call[0] + ", " + call[1] + ")", x.of(call[0], call[1]), BAD);
        }
    }
}
