/** THE BOARD and PEOPLE: part 1 of the Terms (but for THE LAW), PEOPLE FROM A ROW, promises 1 to 5. */
final class BoardSentences {
    private static final int BAD = NineOpinions.BAD, STATE = NineOpinions.STATE, FULL = NineOpinions.FULL;
    private static final int LOW = Check.LOW, HIGH = Check.HIGH;
    private static final int[] NO_LINES = {LOW, -1, 24, HIGH}, NO_SHELVES = {LOW, -1, 6, HIGH};

    private BoardSentences() {
    }

    static void look() {
        Sentence.ofTerms(1, "MATTERS 0 .. 5;", BoardSentences::matters);
        Sentence.ofTerms(1, "VIEWS 0 .. 3 of each: a LINE is a number 0 .. 23: 4 times the MATTER, and the VIEW.",
            BoardSentences::lines);
        Sentence.ofTerms(1, "THE BOARD holds LINES (at first none),", BoardSentences::noneAtFirst);
        Sentence.ofTerms(1, "ROOM of them at most (1 .. 9; 9 at first;", BoardSentences::room);
        Sentence.ofTerms(1, "more stay, if ROOM is told less,", BoardSentences::moreStay);
        Sentence.ofTerms(1, "nothing can be written then);", BoardSentences::nothingIsWrittenThen);
        Sentence.ofTerms(1, "WORN of each of the 24 (0 .. 9; 0 as it is written).", BoardSentences::worn);
        Sentence.ofTerms(1, "PEOPLE 0 .. 7, as they come:", BoardSentences::eightPeople);
        Sentence.ofTerms(1, "BELIEF, a code 0 .. 4095", BoardSentences::belief);
        Sentence.ofTerms(1, "(of MATTER m the VIEW is code by 4 to the m-th, cut, the rest by 4)", BoardSentences::views);
        Sentence.ofTerms(1, "STANDING (0 .. 9; 1 at first).", BoardSentences::standing);
        Sentence.ofTerms(1, "On a MATTER one is OFF by how far his VIEW is from the nearest VIEW that stands on THE BOARD",
            BoardSentences::off);
        Sentence.ofTerms(1, "(of two alike near the lesser),", BoardSentences::theLesser);
        Sentence.ofTerms(1, "by 4, if none of it does.", BoardSentences::offByFour);
        rowsOfPeople();
        Sentence.ofPromise(1, "An empty board, nobody.", BoardSentences::newObject);
        Sentence.ofPromise(2, "One of PEOPLE: its number.", BoardSentences::person);
        Sentence.ofPromise(2, "BAD, FULL: 8.", BoardSentences::personRefused);
        Sentence.ofPromise(3, "PEOPLE FROM A ROW on a SHELF, from place i on, n (1 .. 8) of them: how many came.",
            BoardSentences::howManyAreAskedFor);
        Sentence.ofPromise(3, "BAD, -12 (no ROW of shorts;", BoardSentences::peopleRefused);
        Sentence.ofPromise(3, "a SHELF that holds nothing is missing).", BoardSentences::peopleFromNothing);
        Sentence.ofPromise(4, "BELIEF (what 0), STANDING (1) of one,", BoardSentences::mendOne);
        Sentence.ofPromise(4, "WORN (2) of a LINE (kept for it, whether it stands or not; written anew it is 0),",
            BoardSentences::mendWorn);
        Sentence.ofPromise(4, "ROOM (3; number 0) becomes v: what it was.", BoardSentences::mendRoom);
        Sentence.ofPromise(4, "BAD.", BoardSentences::mendRefused);
        Sentence.ofPromise(5, "As of mend() (0 to 3); of a LINE 4 whether it stands (1, 0).", BoardSentences::told);
        Sentence.ofPromise(5, "BAD.", BoardSentences::tellRefused);
    }

    private static void rowsOfPeople() {
        Sentence.ofTerms(5, "PEOPLE FROM A ROW of shorts, from a place on: by twos BELIEF, STANDING: n of them;",
            BoardSentences::byTwos);
        Sentence.ofTerms(5, "it ends where the row is missing,", BoardSentences::peopleFromNothing);
        Sentence.ofTerms(5, "ends (within a two, too),", BoardSentences::theRowEnds);
        Sentence.ofTerms(5, "one is not so,", BoardSentences::oneIsNotSo);
        Sentence.ofTerms(5, "or PEOPLE are FULL:", BoardSentences::peopleAreFull);
        Sentence.ofTerms(5, "those ahead came.", BoardSentences::thoseAheadCame);
    }

    private static void matters() {
        NineOpinions x = Say.town(0);
        x.row(0, 0, 0);
        for (int matter = 0; matter <= 5; matter++) {
            Check.due("minds(0, " + matter + ")", x.minds(0, matter), 4);
            Check.due("believes(0, " + matter + ", 0)", x.believes(0, matter, 0), 4);
        }
        Check.due("matters(0)", x.matters(0), 63);
        Check.each("minds of MATTER", m -> x.minds(0, m), BAD, LOW, -1, 7, HIGH);
        Check.each("believes of MATTER", m -> x.believes(0, m, 0), BAD, LOW, -1, 6, HIGH);
    }

    private static void lines() {
        for (int line = 0; line <= 23; line++) {
            NineOpinions x = Say.written(Say.town(0, 4095), line);
            for (int matter = 0; matter <= 5; matter++) {
                boolean its = matter == line / 4;
                Check.due("minds(0, " + matter + ") by LINE " + line, x.minds(0, matter), its ? line % 4 : 4);
                Check.due("minds(1, " + matter + ") by LINE " + line, x.minds(1, matter), its ? 3 - line % 4 : 4);
            }
        }
        NineOpinions x = Say.town(0);
        Check.each("of WORN", l -> x.of(l, 2), BAD, NO_LINES);
        Check.each("of whether it stands", l -> x.of(l, 4), BAD, NO_LINES);
        Check.each("mend", l -> x.mend(l, 2, 1), BAD, NO_LINES);
        Check.each("ifLine", x::ifLine, BAD, NO_LINES);
        Check.each("cost", l -> x.cost(l, 0), BAD, NO_LINES);
        Check.each("win", l -> x.win(l, 0), BAD, NO_LINES);
        Check.each("write", x::write, BAD, NO_LINES);
        Check.each("strike", x::strike, BAD, NO_LINES);
        Check.each("rub", x::rub, BAD, NO_LINES);
        Check.each("won", l -> x.won(0, l), BAD, NO_LINES);
        Check.each("drawn", l -> x.drawn(0, 101, l), BAD, LOW, -2, 24, HIGH);
    }

    private static void noneAtFirst() {
        NineOpinions x = new NineOpinions();
        Check.due("board(0)", x.board(0), 0);
        Check.due("count(1)", x.count(1), 0);
        for (int line = 0; line <= 23; line++) {
            Check.due("of(" + line + ", 4)", x.of(line, 4), 0);
        }
    }

    private static void room() {
        Check.due("of(0, 3) at first", new NineOpinions().of(0, 3), 9);
        for (int room = 1; room <= 9; room++) {
            NineOpinions x = new NineOpinions();
            x.mend(0, 3, room);
            for (int line = 0; line < room; line++) {
                Check.due("write with ROOM " + room, x.write(23 - line), line + 1);
            }
            Check.due("one more with ROOM " + room, x.write(0), STATE);
            Check.due("count(1)", x.count(1), room);
            Check.each("ROOM", v -> x.mend(0, 3, v), BAD, LOW, -1, 0, 10, HIGH);
            Check.due("of(0, 3)", x.of(0, 3), room);
        }
        NineOpinions untold = Say.written(new NineOpinions(), 0, 1, 2, 3, 4, 5, 6, 7, 8);
        Check.due("nine stand at first", untold.count(1), 9);
        Check.due("the tenth", untold.write(9), STATE);
    }

    private static void moreStay() {
        NineOpinions x = Say.written(new NineOpinions(), 0, 1, 2, 3, 4, 5, 6, 7, 8);
        x.mend(0, 3, 1);
        Check.due("count(1)", x.count(1), 9);
        Check.due("board(0)", x.board(0), 511);
        Check.due("the lowest stands", x.of(0, 4), 1);
        Check.due("the highest stands", x.of(8, 4), 1);
        Check.due("one is struck", x.strike(8), 8);
    }

    private static void nothingIsWrittenThen() {
        NineOpinions x = Say.written(Say.town(0), 1, 5, 9);
        x.mend(0, 3, 2);
        Check.due("write(0)", x.write(0), STATE);
        Check.due("in thought, helps(0)", x.helps(0), NineOpinions.NOT);
        Check.due("by a draw of LINE 0", x.drawn(0, 101, 0), 0);
        x.strike(9);
        Check.due("as many as ROOM", x.write(0), STATE);
        Check.due("as many as ROOM, in thought", x.helps(0), NineOpinions.NOT);
        Check.due("as many as ROOM, by a draw", x.drawn(0, 101, 0), 0);
        x.strike(5);
        Check.due("one less, by a draw", x.drawn(0, 101, 0), 1);
        Check.due("one less, in thought", x.helps(0), 4);
        Check.due("one less", x.write(0), 2);
    }

    private static void worn() {
        NineOpinions x = new NineOpinions();
        for (int line = 0; line <= 23; line++) {
            Check.due("of(" + line + ", 2) at first", x.of(line, 2), 0);
            x.mend(line, 2, line % 10);
        }
        for (int line = 0; line <= 23; line++) {
            Check.due("of(" + line + ", 2)", x.of(line, 2), line % 10);
        }
        Check.each("WORN", v -> x.mend(9, 2, v), BAD, LOW, -1, 10, HIGH);
        Check.due("from 9 to 0", x.mend(9, 2, 0), 9);
        Check.due("from 0 to 9", x.mend(9, 2, 9), 0);
        Check.due("of(9, 2)", x.of(9, 2), 9);
        x.write(9);
        Check.due("as it is written", x.of(9, 2), 0);
        Check.due("another one's", x.of(8, 2), 8);
    }

    private static void eightPeople() {
        NineOpinions x = Say.town(0, 1, 2);
        Check.due("one who has not come", x.of(3, 0), BAD);
        for (int one = 3; one <= 7; one++) {
            Check.due("the next one's number", x.person(one), one);
        }
        for (int one = 0; one <= 7; one++) {
            Check.due("BELIEF of " + one, x.of(one, 0), one);
        }
        x.row(0, 0, 0);
        int[] none = {LOW, -1, 8, HIGH};
        Check.each("of BELIEF", one -> x.of(one, 0), BAD, none);
        Check.each("of STANDING", one -> x.of(one, 1), BAD, none);
        Check.each("mend of BELIEF", one -> x.mend(one, 0, 5), BAD, none);
        Check.each("mend of STANDING", one -> x.mend(one, 1, 5), BAD, none);
        Check.each("minds, where 8 is all", one -> x.minds(one, 0), BAD, LOW, -1, 9, HIGH);
        Check.each("judge", one -> x.judge(0, one), BAD, none);
        Check.each("like", x::like, BAD, none);
        Check.each("won", one -> x.won(one, 3), BAD, none);
        Check.each("agree", ab -> x.agree(ab, 0), BAD, 8, 80, 88, 79, 97);
        Check.each("byTurns", abn -> x.byTurns(abn, 0), NineOpinions.VOID, 801, 81, 901, 91, 1001);
    }

    private static void belief() {
        NineOpinions x = new NineOpinions();
        Check.each("person", x::person, BAD, LOW, -1, 4096, HIGH);
        Check.due("person(0)", x.person(0), 0);
        Check.due("person(4095)", x.person(4095), 1);
        Check.each("mend", v -> x.mend(0, 0, v), BAD, LOW, -1, 4096, HIGH);
        Check.due("mend to 4095", x.mend(0, 0, 4095), 0);
        Check.due("mend to 0", x.mend(0, 0, 0), 4095);
    }

    private static void views() {
        NineOpinions x = Say.town(0, 4095, 228, 1024, 3071);
        Say.law(x, "v");
        int[][] due = {
            {0, 0, 0, 0, 0, 0}, {3, 3, 3, 3, 3, 3}, {0, 1, 2, 3, 0, 0}, {0, 0, 0, 0, 0, 1}, {3, 3, 3, 3, 3, 2},
        };
        for (int one = 0; one < due.length; one++) {
            for (int matter = 0; matter <= 5; matter++) {
                Check.due("VIEW of " + one + " of " + matter, x.minds(one, matter), due[one][matter]);
            }
        }
    }

    private static void standing() {
        NineOpinions x = Say.town(7);
        Check.due("at first", x.of(0, 1), 1);
        Check.each("STANDING", v -> x.mend(0, 1, v), BAD, LOW, -1, 10, HIGH);
        Check.due("mend to 0", x.mend(0, 1, 0), 1);
        Check.due("mend to 9", x.mend(0, 1, 9), 0);
        Check.due("of(0, 1)", x.of(0, 1), 9);
    }

    /** All boards of a MATTER, LINE by LINE, with how far each VIEW is off. */
    private static void off() {
        int[][] due = {
            {4, 4, 4, 4}, {0, 1, 2, 3}, {1, 0, 1, 2}, {0, 0, 1, 2}, {2, 1, 0, 1}, {0, 1, 0, 1}, {1, 0, 0, 1}, {0, 0, 0, 1},
            {3, 2, 1, 0}, {0, 1, 1, 0}, {1, 0, 1, 0}, {0, 0, 1, 0}, {2, 1, 0, 0}, {0, 1, 0, 0}, {1, 0, 0, 0}, {0, 0, 0, 0},
        };
        for (int board = 0; board < 16; board++) {
            NineOpinions x = Say.town(0, 1024, 2048, 3072);
            for (int view = 0; view <= 3; view++) {
                if ((board >> view & 1) == 1) {
                    x.write(20 + view);
                }
            }
            for (int view = 0; view <= 3; view++) {
                Check.due("VIEW " + view + " on board " + board, x.minds(view, 5), due[board][view]);
            }
        }
    }

    private static void theLesser() {
        NineOpinions x = Say.written(Say.town(Say.code(1, 2, 0, 0, 0, 0)), 0, 2, 5, 7);
        x.mend(0, 2, 3);
        x.mend(2, 2, 8);
        x.mend(5, 2, 2);
        x.mend(7, 2, 9);
        Say.law(x, "w");
        Check.due("VIEW 1 between 0 and 2", x.minds(0, 0), 3);
        Check.due("VIEW 2 between 1 and 3", x.minds(0, 1), 2);
        x.strike(0);
        Check.due("the greater one alone", x.minds(0, 0), 8);
    }

    private static void offByFour() {
        NineOpinions x = Say.town(0, 4095);
        for (int one = 0; one <= 1; one++) {
            Check.due("none of it", x.minds(one, 3), 4);
        }
        Say.written(x, 11, 16);
        for (int one = 0; one <= 1; one++) {
            Check.due("those beside it are none of it", x.minds(one, 3), 4);
        }
        Say.law(x, "w+k");
        Check.due("no WORN, no LINES", x.minds(0, 3), 0);
    }

    private static void byTwos() {
        NineOpinions x = new NineOpinions();
        Say.row(x, 0, 1, 5, 9, 4095, 0, 0, 3);
        Check.due("two from place 0", x.people(0, 0, 2), 2);
        Check.due("one from place 1", x.people(0, 3, 1), 1);
        int[][] due = {{5, 9}, {4095, 0}, {0, 0}};
        for (int one = 0; one < due.length; one++) {
            Check.due("BELIEF of " + one, x.of(one, 0), due[one][0]);
            Check.due("STANDING of " + one, x.of(one, 1), due[one][1]);
        }
        Check.due("count(0)", x.count(0), 3);
    }

    private static void theRowEnds() {
        NineOpinions x = new NineOpinions();
        Say.row(x, 0, 1, 1, 1, 2, 1);
        Say.row(x, 1, 1, 3, 1, 4);
        x.row(2, 1, 0);
        Check.due("behind a two", x.people(0, 0, 8), 2);
        Check.due("within a two", x.people(1, 0, 8), 1);
        Check.due("within the first two", x.people(1, 2, 8), 0);
        Check.each("where no place is", i -> x.people(0, i, 8), 0, LOW, -2, -1, 4, 5, 60, HIGH - 1, HIGH);
        Check.each("of none", i -> x.people(2, i, 8), 0, LOW, -1, 0, 1, HIGH);
        Check.due("count(0)", x.count(0), 3);
    }

    private static void oneIsNotSo() {
        long[][] rows = {{-1, 1}, {4096, 1}, {32767, 1}, {-32768, 1}, {1, -1}, {1, 10}, {1, 32767}, {-1, -1}};
        for (long[] row : rows) {
            NineOpinions x = new NineOpinions();
            Say.row(x, 0, 1, row);
            Check.due("of " + row[0] + ", " + row[1], x.people(0, 0, 1), 0);
            Check.due("count(0)", x.count(0), 0);
        }
    }

    private static void peopleAreFull() {
        NineOpinions x = Say.town(0, 0, 0, 0, 0, 0);
        Say.row(x, 0, 1, 1, 1, 2, 1, 3, 1);
        Check.due("room for two of three", x.people(0, 0, 3), 2);
        Check.due("for none", x.people(0, 0, 3), 0);
        Check.due("count(0)", x.count(0), 8);
        Check.due("the last one", x.of(7, 0), 2);
    }

    private static void thoseAheadCame() {
        NineOpinions x = new NineOpinions();
        Say.row(x, 0, 1, 11, 2, 12, 3, 13, 10, 14, 5);
        Check.due("two ahead of one that is not so", x.people(0, 0, 4), 2);
        Check.due("BELIEF of the first", x.of(0, 0), 11);
        Check.due("STANDING of the second", x.of(1, 1), 3);
        Check.due("nobody from behind it", x.of(2, 0), BAD);
    }

    private static void newObject() {
        NineOpinions x = Say.town();
        Check.due("board(0)", x.board(0), 0);
        Check.due("minds(8, 6)", x.minds(8, 6), 0);
        Check.each("of BELIEF", one -> x.of(one, 0), BAD, 0, 1, 2, 3, 4, 5, 6, 7);
        Check.each("count", x::count, 0, 0, 1, 2, 3, 4, 5);
        Check.each("led", x::led, 0, 0, 1, 2, 3, 4);
        Check.each("put on SHELF", s -> x.put(s, 0, 0), -11, 0, 1, 2, 3, 4, 5);
        Check.due("back()", x.back(), STATE);
        Check.due("undo()", x.undo(), STATE);
        Check.due("redo()", x.redo(), STATE);
        Check.due("trace(0)", x.trace(0), BAD);
        Check.due("act(0, 0, 5)", x.act(0, 0, 5), 0);
        Check.due("law()", x.law(), -100);
        NineOpinions other = new NineOpinions();
        x.person(0);
        x.write(0);
        Check.due("another one's PEOPLE", other.count(0), 0);
        Check.due("another one's board", other.board(0), 0);
    }

    private static void person() {
        NineOpinions x = new NineOpinions();
        for (int one = 0; one <= 7; one++) {
            Check.due("person", x.person(585 * one), one);
            Check.due("count(0)", x.count(0), one + 1);
        }
        Check.due("BELIEF of the last", x.of(7, 0), 4095);
        Check.due("it is no change", x.count(3), 0);
    }

    private static void personRefused() {
        NineOpinions x = Say.town(1, 2, 3, 4, 5, 6, 7);
        Check.each("person", x::person, BAD, LOW, -1, 4096, HIGH);
        Check.due("the eighth", x.person(8), 7);
        Check.due("the ninth", x.person(9), FULL);
        Check.each("person, of both BAD first", x::person, BAD, LOW, -1, 4096, HIGH);
        Check.due("count(0)", x.count(0), 8);
        Check.due("the last stays", x.of(7, 0), 8);
    }

    private static void howManyAreAskedFor() {
        NineOpinions x = new NineOpinions();
        Say.row(x, 0, 1, 9, 9, 1, 1, 2, 2, 3, 3, 4, 4, 5, 5, 6, 6, 7, 7, 8, 8);
        Check.each("people, n", n -> x.people(0, 0, n), BAD, LOW, -1, 0, 9, HIGH);
        Check.due("nobody came", x.count(0), 0);
        Check.due("eight of nine from place 2 on", x.people(0, 2, 8), 8);
        Check.due("the first", x.of(0, 0), 1);
        Check.due("the last", x.of(7, 1), 8);
        NineOpinions y = new NineOpinions();
        Say.row(y, 5, 1, 1, 1, 2, 2);
        Check.due("one of two", y.people(5, 0, 1), 1);
        Check.due("count(0)", y.count(0), 1);
    }

    private static void peopleRefused() {
        NineOpinions x = new NineOpinions();
        x.keep(0, x.body(0));
        x.row(1, 0, 4);
        x.row(2, 2, 4);
        x.row(3, 3, 4);
        x.row(4, 4, 4);
        Check.each("people of SHELF", s -> x.people(s, 0, 1), BAD, NO_SHELVES);
        Check.each("people of SHELF", s -> x.people(s, 0, 1), -12, 0, 1, 2, 3, 4);
        Check.each("from no place, of SHELF", s -> x.people(s, -1, 1), -12, 0, 1, 2, 3, 4);
        Check.each("of both BAD first, of SHELF", s -> x.people(s, 0, 9), BAD, 0, 1, 2, 3, 4, 5);
        Check.due("count(0)", x.count(0), 0);
    }

    private static void peopleFromNothing() {
        NineOpinions x = new NineOpinions();
        Check.each("people of SHELF", s -> x.people(s, 0, 1), 0, 0, 1, 2, 3, 4, 5);
        Check.each("from place", i -> x.people(0, i, 8), 0, LOW, -1, 0, 60, HIGH);
        Say.row(x, 0, 1, 1, 1);
        x.keep(0, -1);
        Check.due("where a ROW has been", x.people(0, 0, 1), 0);
        Check.due("count(0)", x.count(0), 0);
    }

    private static void mendOne() {
        NineOpinions x = Say.town(10, 20);
        Check.due("BELIEF of 1", x.mend(1, 0, 4095), 20);
        Check.due("STANDING of 1", x.mend(1, 1, 9), 1);
        Check.due("BELIEF of 1 then", x.mend(1, 0, 0), 4095);
        Check.due("STANDING of 1 then", x.mend(1, 1, 0), 9);
        Check.due("BELIEF of 0", x.of(0, 0), 10);
        Check.due("STANDING of 0", x.of(0, 1), 1);
        Check.each("mend of one", one -> x.mend(one, 0, 3), BAD, LOW, -1, 2, HIGH);
        Check.each("mend of one", one -> x.mend(one, 1, 3), BAD, LOW, -1, 2, HIGH);
    }

    private static void mendWorn() {
        NineOpinions x = new NineOpinions();
        Check.due("that does not stand", x.mend(23, 2, 9), 0);
        Check.due("it is kept", x.of(23, 2), 9);
        Check.due("to 0 again", x.mend(23, 2, 0), 9);
        Check.due("to 1", x.mend(23, 2, 1), 0);
        x.write(23);
        Check.due("written anew", x.of(23, 2), 0);
        Check.due("that stands", x.mend(23, 2, 7), 0);
        x.strike(23);
        Check.due("struck it is kept", x.of(23, 2), 7);
        x.write(23);
        Check.due("written anew again", x.mend(23, 2, 1), 0);
    }

    private static void mendRoom() {
        NineOpinions x = new NineOpinions();
        Check.due("to 1", x.mend(0, 3, 1), 9);
        Check.due("to 1 again", x.mend(0, 3, 1), 1);
        Check.due("to 9", x.mend(0, 3, 9), 1);
        Check.each("of number", n -> x.mend(n, 3, 5), BAD, LOW, -1, 1, HIGH);
        Check.due("of(0, 3)", x.of(0, 3), 9);
    }

    private static void mendRefused() {
        NineOpinions x = Say.town(10);
        Check.each("mend, what", what -> x.mend(0, what, 1), BAD, LOW, -1, 4, 5, HIGH);
        Check.each("BELIEF", v -> x.mend(0, 0, v), BAD, LOW, -1, 4096, HIGH);
        Check.each("STANDING", v -> x.mend(0, 1, v), BAD, LOW, -1, 10, HIGH);
        Check.each("WORN", v -> x.mend(0, 2, v), BAD, LOW, -1, 10, HIGH);
        Check.each("ROOM", v -> x.mend(0, 3, v), BAD, LOW, 0, 10, HIGH);
        Check.each("WORN of LINE", l -> x.mend(l, 2, 5), BAD, NO_LINES);
        int[] due = {10, 1, 0, 9};
        Check.each("nothing became so, what", what -> x.of(0, what) - due[what], 0, 0, 1, 2, 3);
        Check.due("nor is it a change", x.count(3), 0);
    }

    private static void told() {
        NineOpinions x = Say.written(Say.town(77, 4095), 9, 23);
        x.mend(1, 1, 8);
        x.mend(9, 2, 4);
        x.mend(0, 3, 2);
        Check.due("BELIEF", x.of(1, 0), 4095);
        Check.due("STANDING", x.of(1, 1), 8);
        Check.due("WORN", x.of(9, 2), 4);
        Check.due("ROOM", x.of(0, 3), 2);
        for (int line = 0; line <= 23; line++) {
            Check.due("of(" + line + ", 4)", x.of(line, 4), line == 9 || line == 23 ? 1 : 0);
        }
    }

    private static void tellRefused() {
        NineOpinions x = Say.town(77);
        Check.each("of, what", what -> x.of(0, what), BAD, LOW, -1, 5, HIGH);
        Check.each("BELIEF of", one -> x.of(one, 0), BAD, LOW, -1, 1, 8, HIGH);
        Check.each("STANDING of", one -> x.of(one, 1), BAD, LOW, -1, 1, 8, HIGH);
        Check.each("WORN of", l -> x.of(l, 2), BAD, NO_LINES);
        Check.each("ROOM of", n -> x.of(n, 3), BAD, LOW, -1, 1, HIGH);
        Check.each("whether it stands, of", l -> x.of(l, 4), BAD, NO_LINES);
    }
}
