/** Boards in thought and votes on LINES: part 2 of the Terms, promises 8 to 15. */
final class ThoughtSentences {
    private static final int BAD = NineOpinions.BAD, NOT = NineOpinions.NOT;
    private static final int LOW = Check.LOW, HIGH = Check.HIGH;
    private static final int[] NO_LINES = {LOW, -1, 24, HIGH}, NEITHER = {LOW, -1, 2, HIGH};

    private ThoughtSentences() {
    }

    static void look() {
        Sentence.ofTerms(2, "IN THOUGHT: how much one MINDS a MATTER, all MATTERS; how much all of PEOPLE do.",
            ThoughtSentences::minding);
        Sentence.ofTerms(2, "IF: how much all MIND, if a told LINE were changed (struck, if it stands; else written,",
            ThoughtSentences::changed);
        Sentence.ofTerms(2, "WORN 0, whatever ROOM).", ThoughtSentences::changedWhateverRoom);
        Sentence.ofTerms(2, "NEAREST BOARD: that of ROOM LINES at most", ThoughtSentences::nearestWithinRoom);
        Sentence.ofTerms(2, "(WORN 0 all, but those that stand now as they are) by which all MIND least",
            ThoughtSentences::nearestAsWorn);
        Sentence.ofTerms(2, "(of like ones the least number, LINES as bits): that; which;",
            ThoughtSentences::nearestOfLikeOnes);
        Sentence.ofTerms(2, "how many LINES of it do not stand now, and of those now are not in it, together.",
            ThoughtSentences::strokes);
        costs();
        changes();
        votes();
        Sentence.ofPromise(8, "How much one (all: 8) MINDS a MATTER (all: 6).", ThoughtSentences::allAndEach);
        Sentence.ofPromise(8, "BAD.", ThoughtSentences::mindsRefused);
        Sentence.ofPromise(9, "IF. BAD.", ThoughtSentences::ifLineRefused);
        Sentence.ofPromise(10, "THE BOARD as bits (what 0), NEAREST BOARD: that (1), which (2), how many strokes (3).",
            ThoughtSentences::board);
        Sentence.ofPromise(10, "BAD.", ThoughtSentences::boardRefused);
        Sentence.ofPromise(11, "COST: which (what 0), how much (1).", ThoughtSentences::cost);
        Sentence.ofPromise(11, "BAD; NOT.", ThoughtSentences::costRefused);
        Sentence.ofPromise(12, "HELPS: which (what 0), that (1).", ThoughtSentences::helps);
        Sentence.ofPromise(12, "BAD; NOT.", ThoughtSentences::helpsRefused);
        Sentence.ofPromise(13, "MAY (what 0), NOBODY'S (1), UNTOLD (2): bits.", ThoughtSentences::lines);
        Sentence.ofPromise(13, "BAD.", ThoughtSentences::linesRefused);
        Sentence.ofPromise(14, "WIN, for a LINE: how many (what 0), who (1).", ThoughtSentences::win);
        Sentence.ofPromise(14, "BAD; NOT.", ThoughtSentences::winRefused);
        Sentence.ofPromise(15, "SILENT (what 0), opposites (1), one alone (2): bits of MATTERS.", ThoughtSentences::bitsOfMatters);
        Sentence.ofPromise(15, "BAD.", ThoughtSentences::mattersRefused);
    }

    private static void costs() {
        Sentence.ofTerms(2, "COST: a told LINE is to be written (it does not stand):", ThoughtSentences::costOfOneThatStands);
        Sentence.ofTerms(2, "which one should be struck for it (one that stands; of like ones the least)",
            ThoughtSentences::costOfLikeOnes);
        Sentence.ofTerms(2, "so that all MIND least behind both: which; how much all MIND then;", ThoughtSentences::costBehindBoth);
        Sentence.ofTerms(2, "NOT: none stands, or it stands.", ThoughtSentences::costNot);
    }

    private static void changes() {
        Sentence.ofTerms(2, "HELPS: which one LINE changed (written only if there is ROOM)", ThoughtSentences::helpsWithRoom);
        Sentence.ofTerms(2, "makes all MIND least, less than now (of like ones the least): which; that; NOT.",
            ThoughtSentences::helpsLess);
    }

    private static void votes() {
        Sentence.ofTerms(2, "MAY: a LINE may be struck, if those who do not believe it have more than half of all STANDING:",
            ThoughtSentences::moreThanHalf);
        Sentence.ofTerms(2, "which of those on THE BOARD (bits) may.", ThoughtSentences::onTheBoard);
        Sentence.ofTerms(2, "WIN: the fewest of PEOPLE who believe it who should no more, so that it may:",
            ThoughtSentences::fewest);
        Sentence.ofTerms(2, "how many; who (bits; of like ones the least);", ThoughtSentences::fewestOfLikeOnes);
        Sentence.ofTerms(2, "NOT: not even all.", ThoughtSentences::notEvenAll);
        Sentence.ofTerms(2, "NOBODY'S: which LINES on THE BOARD (bits) nobody believes.", ThoughtSentences::nobodys);
        Sentence.ofTerms(2, "UNTOLD: what is believed by somebody, and does not stand: bits.", ThoughtSentences::untold);
        Sentence.ofTerms(2, "SILENT: which MATTERS (bits) have no LINE;", ThoughtSentences::silent);
        Sentence.ofTerms(2, "which have both VIEW 0 and VIEW 3 (opposites);", ThoughtSentences::opposites);
        Sentence.ofTerms(2, "which have one LINE alone (nobody may differ).", ThoughtSentences::oneAlone);
    }

    private static NineOpinions by(String law, NineOpinions x) {
        Say.law(x, law);
        return x;
    }

    private static NineOpinions room(int room, NineOpinions x) {
        x.mend(0, 3, room);
        return x;
    }

    private static NineOpinions standings(NineOpinions x, int... standings) {
        for (int one = 0; one < standings.length; one++) {
            x.mend(one, 1, standings[one]);
        }
        return x;
    }

    private static void minding() {
        NineOpinions x = Say.written(Say.town(0, 4095), 1, 8);
        int[][] due = {{1, 4, 0, 4, 4, 4}, {2, 4, 3, 4, 4, 4}};
        for (int matter = 0; matter <= 5; matter++) {
            Check.due("minds(0, " + matter + ")", x.minds(0, matter), due[0][matter]);
            Check.due("minds(1, " + matter + ")", x.minds(1, matter), due[1][matter]);
            Check.due("minds(8, " + matter + ")", x.minds(8, matter), due[0][matter] + due[1][matter]);
        }
        Check.due("minds(0, 6)", x.minds(0, 6), 17);
        Check.due("minds(1, 6)", x.minds(1, 6), 21);
        Check.due("minds(8, 6)", x.minds(8, 6), 38);
    }

    private static void changed() {
        NineOpinions x = Say.written(Say.town(0), 1);
        Check.due("one that stands", x.ifLine(1), 24);
        Check.due("one that is nearer", x.ifLine(0), 20);
        Check.due("one that is farther off", x.ifLine(3), 21);
        Check.due("the first of a MATTER", x.ifLine(23), 20);
        Check.due("the board stays", x.board(0), 2);
        Check.due("nothing is LED but what was written", 10 * x.led(0) + x.led(1), 10);
        Check.due("by nobody", new NineOpinions().ifLine(5), 0);
    }

    private static void changedWhateverRoom() {
        NineOpinions x = Say.written(Say.town(0), 1, 5);
        x.mend(0, 3, 1);
        Check.due("with more than ROOM", x.ifLine(0), 17);
        x.strike(5);
        Check.due("with just as many", x.ifLine(4), 17);
        by("w", x);
        x.mend(0, 2, 9);
        x.mend(1, 2, 5);
        x.mend(9, 2, 7);
        Check.due("now", x.minds(0, 6), 5);
        Check.due("it is WORN 0 as it is written", x.ifLine(0), 0);
        Check.due("so is one beside it", x.ifLine(9), 5);
        Check.due("struck, it is WORN no more", x.ifLine(1), 0);
    }

    private static void nearestWithinRoom() {
        int[] lowest = {0, 1, 0x11, 0x111, 0x1111, 0x11111, 0x111111, 0x111111, 0x111111, 0x111111};
        for (int room = 1; room <= 9; room++) {
            NineOpinions x = room(room, Say.town(0));
            Check.due("with ROOM " + room + ", how much", x.board(1), Math.max(0, 24 - 4 * room));
            Check.due("with ROOM " + room + ", which", x.board(2), lowest[room]);
            NineOpinions all = by("4-k", room(room, Say.town(0)));
            Check.due("the more the better, with ROOM " + room, all.board(2), (1 << room) - 1);
            Check.due("the more the better, how much", all.board(1), 24 - room);
        }
        NineOpinions x = room(1, Say.written(Say.town(0), 0, 4, 8, 12));
        Check.due("more stand than ROOM", x.board(2), 1);
        Check.due("more stand than ROOM, how much", x.board(1), 20);
        Check.due("more stand than ROOM, strokes", x.board(3), 3);
    }

    private static void nearestAsWorn() {
        NineOpinions x = by("w+9*(k=0)", Say.written(Say.town(0), 0));
        x.mend(0, 2, 3);
        x.mend(4, 2, 7);
        Check.due("another one than the one that is WORN", x.board(2), 0x111112);
        Check.due("nobody MINDS that", x.board(1), 0);
        Check.due("strokes", x.board(3), 7);
        NineOpinions liked = by("9-w", Say.written(Say.town(0), 0));
        liked.mend(0, 2, 9);
        liked.mend(4, 2, 9);
        Check.due("the one that stands stays WORN", liked.board(2), 1);
        Check.due("45 of the others", liked.board(1), 45);
        Check.due("no stroke", liked.board(3), 0);
    }

    private static void nearestOfLikeOnes() {
        Check.due("all alike: none", by("5", Say.written(Say.town(0), 3, 9)).board(2), 0);
        Check.due("nobody: none", Say.written(new NineOpinions(), 3, 9).board(2), 0);
        Check.due("two low LINES are less than one high", by("(k=2|d=3)?0;5", Say.town(0)).board(2), 0x333888);
        Check.due("nobody MINDS that", by("(k=2|d=3)?0;5", Say.town(0)).board(1), 0);
        Check.due("the lowest MATTER", room(1, Say.town(4095)).board(2), 1 << 3);
        Check.due("the one that both believe", room(1, Say.town(0, 3)).board(2), 1 << 4);
        Check.due("of VIEWS alike to two who differ", room(1, by("m?9;d", Say.town(0, 3))).board(2), 1);
    }

    private static void strokes() {
        Check.due("on an empty board", Say.town(0).board(3), 6);
        Check.due("on that board", Say.written(Say.town(0), 0, 4, 8, 12, 16, 20).board(3), 0);
        Check.due("LINES lacking and LINES too many", Say.written(Say.town(0), 0, 4, 9, 13, 23).board(3), 7);
        Check.due("all of nine are too many", by("k", Say.written(Say.town(0), 0, 1, 2, 3, 4, 5, 6, 7, 23)).board(3), 9);
        Check.due("nobody, nothing", new NineOpinions().board(3), 0);
    }

    private static void costOfOneThatStands() {
        NineOpinions x = Say.written(Say.town(0), 1, 5);
        Check.due("it does not stand", x.cost(0, 0), 1);
        Check.due("it stands", x.cost(5, 0), NOT);
        Check.due("it stands", x.cost(5, 1), NOT);
        Check.due("the board stays", x.board(0), Say.bits(1, 5));
    }

    private static void costOfLikeOnes() {
        NineOpinions x = by("5", Say.written(Say.town(0), 23, 7, 2));
        Check.due("of three alike", x.cost(0, 0), 2);
        Check.due("of three alike, how much", x.cost(0, 1), 30);
        Check.due("where one alone stands", Say.written(Say.town(0), 23).cost(0, 0), 23);
        Check.due("of two alike", Say.written(Say.town(0), 4, 8).cost(0, 0), 4);
        Check.due("nobody MINDS", Say.written(new NineOpinions(), 21, 22).cost(0, 0), 21);
    }

    private static void costBehindBoth() {
        NineOpinions x = Say.written(Say.town(0), 1, 5);
        Check.due("its own MATTER's", x.cost(0, 0), 1);
        Check.due("its own MATTER's, how much", x.cost(0, 1), 17);
        Check.due("the higher one", x.cost(4, 0), 5);
        Check.due("the higher one, asked first", Say.written(Say.town(0), 1, 5).cost(4, 0), 5);
        Check.due("with more than ROOM, too", room(1, x).cost(4, 0), 5);
        by("w", x);
        x.mend(1, 2, 5);
        x.mend(5, 2, 7);
        x.mend(8, 2, 9);
        Check.due("the one that is most WORN", x.cost(8, 0), 5);
        Check.due("it is written WORN 0", x.cost(8, 1), 5);
    }

    private static void costNot() {
        NineOpinions x = Say.town(0);
        Check.due("none stands", x.cost(0, 0), NOT);
        Check.due("none stands, how much", x.cost(0, 1), NOT);
        x.write(0);
        Check.due("it stands", x.cost(0, 0), NOT);
        Check.due("it stands, how much", x.cost(0, 1), NOT);
        Check.due("another one does not", x.cost(1, 0), 0);
    }

    private static void helpsWithRoom() {
        NineOpinions x = Say.written(Say.town(0), 3);
        Check.due("there is ROOM", x.helps(0), 4);
        Check.due("there is ROOM: that", x.helps(1), 19);
        Check.due("ROOM for one more", room(2, x).helps(0), 4);
        Check.due("no ROOM", room(1, x).helps(0), NOT);
        Check.due("no ROOM: that", x.helps(1), NOT);
        Check.due("a stroke needs none", by("k", x).helps(0), 3);
        Check.due("a stroke needs none: that", x.helps(1), 0);
        NineOpinions nine = Say.written(Say.town(0), 1, 2, 3, 5, 6, 7, 9, 10, 11);
        Check.due("nine stand", nine.helps(0), NOT);
        nine.strike(11);
        Check.due("eight stand", nine.helps(0), 12);
    }

    private static void helpsLess() {
        Check.due("all alike", by("5", Say.town(0)).helps(0), NOT);
        Check.due("all alike: that", by("5", Say.town(0)).helps(1), NOT);
        Check.due("nobody", new NineOpinions().helps(0), NOT);
        Check.due("of six alike", Say.town(0).helps(0), 0);
        Check.due("of six alike: that", Say.town(0).helps(1), 20);
        Check.due("of the highest VIEWS", Say.town(4095).helps(0), 3);
        NineOpinions x = Say.written(Say.town(0), 0, 4, 8, 12, 16, 20);
        Check.due("nobody MINDS as it is", x.helps(0), NOT);
        x.strike(20);
        Check.due("the last one", x.helps(0), 20);
        Check.due("the last one: that", x.helps(1), 0);
        Check.due("the board stays", x.board(0), 0x11111);
    }

    private static void moreThanHalf() {
        NineOpinions x = Say.written(Say.town(0, 1), 0, 1);
        Check.due("half is not more", x.lines(0), 0);
        x.mend(1, 1, 2);
        Check.due("two of three", x.lines(0), Say.bits(0));
        x.mend(0, 1, 3);
        Check.due("three of five", x.lines(0), Say.bits(1));
        standings(x, 0, 0);
        Check.due("nothing of nothing", x.lines(0), 0);
        standings(x, 0, 1);
        Check.due("all", x.lines(0), Say.bits(0));
        Check.due("nobody", Say.written(new NineOpinions(), 0, 1).lines(0), 0);
        NineOpinions eight = Say.written(Say.town(0, 0, 0, 0, 1, 1, 1, 1), 0);
        Check.due("four of eight", eight.lines(0), 0);
        eight.won(3, 2);
        Check.due("five of eight", eight.lines(0), Say.bits(0));
    }

    private static void onTheBoard() {
        NineOpinions x = Say.town(0);
        Check.due("none stands", x.lines(0), 0);
        Say.written(x, 0, 1, 2, 3, 4, 23);
        Check.due("all that he does not believe", x.lines(0), Say.bits(1, 2, 3, 23));
        x.strike(23);
        Check.due("one less", x.lines(0), Say.bits(1, 2, 3));
    }

    private static void fewest() {
        NineOpinions x = Say.town(0, 0, 0, 0);
        Check.due("three of four", x.win(0, 0), 3);
        x.mend(2, 1, 4);
        Check.due("one of much STANDING", x.win(0, 0), 1);
        Check.due("that one", x.win(0, 1), 4);
        x.mend(2, 1, 3);
        Check.due("half is not more", x.win(0, 0), 2);
        Check.due("it may be struck as it is", x.win(1, 0), 0);
        Check.due("nobody need be won", x.win(1, 1), 0);
        NineOpinions y = Say.town(1, 0, 0);
        Check.due("those who do not believe it count, too", y.win(0, 0), 1);
        Check.due("the first who does", y.win(0, 1), 2);
        NineOpinions one = standings(Say.town(0, 0, 0, 1), 1, 1, 2, 2);
        Check.due("one of more STANDING is fewer than two", one.win(0, 0), 1);
        Check.due("that one", one.win(0, 1), 4);
        NineOpinions eight = Say.town(0, 0, 0, 0, 0, 0, 0, 0);
        Check.due("five of eight", eight.win(0, 0), 5);
        Check.due("of a LINE that stands", Say.written(eight, 0).win(0, 0), 5);
    }

    private static void fewestOfLikeOnes() {
        Check.due("of eight alike", Say.town(0, 0, 0, 0, 0, 0, 0, 0).win(0, 1), 31);
        Check.due("of three alike", Say.town(0, 0, 0).win(0, 1), 3);
        NineOpinions x = standings(Say.town(0, 0, 0), 1, 5, 5);
        Check.due("a small one with a great one", x.win(0, 1), 3);
        NineOpinions y = standings(Say.town(0, 0, 0, 0), 1, 9, 9, 9);
        Check.due("two great ones", y.win(0, 1), 6);
        NineOpinions last = standings(Say.town(0, 0, 0, 0, 0, 0, 0, 0), 1, 1, 1, 1, 1, 1, 1, 9);
        Check.due("the eighth alone", last.win(0, 1), 128);
    }

    private static void notEvenAll() {
        NineOpinions x = standings(Say.town(0, 0, 1), 0, 0, 0);
        for (int what = 0; what <= 1; what++) {
            Check.due("nobody has STANDING", x.win(0, what), NOT);
            Check.due("nobody believes it, nobody has STANDING", x.win(3, what), NOT);
            Check.due("nobody", new NineOpinions().win(0, what), NOT);
        }
        x.mend(0, 1, 1);
        Check.due("all is enough", x.win(0, 0), 1);
    }

    private static void nobodys() {
        NineOpinions x = Say.written(Say.town(0, 4095), 0, 3, 1, 20, 22, 23);
        Check.due("of two", x.lines(1), Say.bits(1, 22));
        standings(x, 0, 0);
        Check.due("STANDING does not count", x.lines(1), Say.bits(1, 22));
        Check.due("of nobody", Say.written(new NineOpinions(), 0, 23).lines(1), Say.bits(0, 23));
        Check.due("on an empty board", Say.town(0).lines(1), 0);
    }

    private static void untold() {
        NineOpinions x = Say.written(Say.town(0, 4095), 0, 1, 23);
        Check.due("of two", x.lines(2), 0x999999 & ~Say.bits(0, 23));
        Check.due("of nobody", Say.written(new NineOpinions(), 5).lines(2), 0);
        Check.due("on an empty board", Say.town(4095).lines(2), 0x888888);
        Check.due("all is told", Say.written(Say.town(0), 0, 4, 8, 12, 16, 20).lines(2), 0);
    }

    private static void silent() {
        NineOpinions x = new NineOpinions();
        Check.due("an empty board", x.matters(0), 63);
        x.write(23);
        Check.due("the last one is not", x.matters(0), 31);
        Say.written(x, 0, 7, 9, 14);
        Check.due("one is", x.matters(0), 16);
        x.write(16);
        Check.due("none is", x.matters(0), 0);
        x.strike(0);
        Check.due("the first one is", x.matters(0), 1);
    }

    private static void opposites() {
        NineOpinions x = Say.written(new NineOpinions(), 0, 3, 4, 6, 9, 11, 20, 21, 23);
        Check.due("VIEWS 0 and 3 alone count", x.matters(1), Say.bits(0, 5));
        x.strike(23);
        Check.due("one of them is none", x.matters(1), Say.bits(0));
        Check.due("none", new NineOpinions().matters(1), 0);
    }

    private static void oneAlone() {
        NineOpinions x = Say.written(new NineOpinions(), 0, 5, 10, 15, 16, 17, 23);
        Check.due("any VIEW", x.matters(2), Say.bits(0, 1, 2, 3, 5));
        x.write(3);
        Check.due("two are not alone", x.matters(2), Say.bits(1, 2, 3, 5));
        Check.due("none is not one", new NineOpinions().matters(2), 0);
    }

    private static void allAndEach() {
        NineOpinions x = Say.town(0, 0, 0, 0, 0, 0, 0, 4095);
        x.write(23);
        Check.due("the last of PEOPLE", x.minds(7, 5), 0);
        Check.due("the first of PEOPLE", x.minds(0, 5), 3);
        Check.due("all on the last MATTER", x.minds(8, 5), 21);
        Check.due("one on all", x.minds(7, 6), 20);
        Check.due("all on all", x.minds(8, 6), 7 * 23 + 20);
        Check.due("all of none on all", new NineOpinions().minds(8, 6), 0);
        Check.due("all of none on one", new NineOpinions().minds(8, 5), 0);
    }

    private static void mindsRefused() {
        NineOpinions x = Say.town(0, 0);
        Check.each("minds of one", one -> x.minds(one, 0), BAD, LOW, -1, 2, 7, 9, HIGH);
        Check.each("minds of one, of all", one -> x.minds(one, 6), BAD, LOW, -1, 2, 7, 9, HIGH);
        Check.each("minds a MATTER", m -> x.minds(1, m), BAD, LOW, -1, 7, 8, HIGH);
        Check.each("all mind a MATTER", m -> x.minds(8, m), BAD, LOW, -1, 7, 8, HIGH);
        Check.due("nobody came", new NineOpinions().minds(0, 6), BAD);
    }

    private static void ifLineRefused() {
        NineOpinions x = Say.town(0);
        Check.each("ifLine", x::ifLine, BAD, NO_LINES);
        Check.due("ifLine(0)", x.ifLine(0), 20);
        Check.due("ifLine(23)", x.ifLine(23), 23);
    }

    private static void board() {
        NineOpinions x = Say.written(Say.town(0), 0, 23);
        int[] due = {Say.bits(0, 23), 0, 0x111111, 6};
        for (int what = 0; what <= 3; what++) {
            Check.due("board(" + what + ")", x.board(what), due[what]);
        }
    }

    private static void boardRefused() {
        Check.each("board", Say.town(0)::board, BAD, LOW, -1, 4, HIGH);
    }

    private static void cost() {
        NineOpinions x = Say.written(Say.town(0, 4095), 3, 9, 22);
        // together they MIND 3 on a MATTER of one LINE, 8 on one of none
        Check.due("how much now", x.minds(8, 6), 3 + 3 + 3 + 24);
        Check.due("which", x.cost(12, 0), 3);
        Check.due("how much", x.cost(12, 1), 8 + 3 + 3 + 3 + 16);
        Check.due("which for the last LINE", x.cost(23, 0), 22);
        Check.due("how much for the last LINE", x.cost(23, 1), 3 + 3 + 3 + 24);
    }

    private static void helps() {
        NineOpinions x = Say.written(Say.town(0, 4095), 3, 9, 22);
        Check.due("which", x.helps(0), 4);
        Check.due("that", x.helps(1), 3 + 3 + 3 + 3 + 16);
    }

    private static void lines() {
        NineOpinions x = Say.written(Say.town(0, 0, 4095), 0, 3, 5, 23);
        int[] due = {Say.bits(3, 5, 23), Say.bits(5), 0x999999 & ~Say.bits(0, 3, 23)};
        for (int what = 0; what <= 2; what++) {
            Check.due("lines(" + what + ")", x.lines(what), due[what]);
        }
    }

    private static void win() {
        NineOpinions x = standings(Say.town(0, 4095, 0, 3), 2, 1, 2, 0);
        int[][] due = {{0, 1, 1}, {3, 0, 0}, {1, 0, 0}, {4, 1, 1}, {23, 0, 0}};
        for (int[] one : due) {
            Check.due("win(" + one[0] + ", 0)", x.win(one[0], 0), one[1]);
            Check.due("win(" + one[0] + ", 1)", x.win(one[0], 1), one[2]);
        }
    }

    private static void costRefused() {
        NineOpinions x = Say.written(Say.town(0), 5);
        Check.each("cost", l -> x.cost(l, 0), BAD, NO_LINES);
        Check.each("cost, what", what -> x.cost(0, what), BAD, NEITHER);
        Check.each("of both BAD first, what", what -> x.cost(5, what), BAD, NEITHER);
        Check.due("it stands", x.cost(5, 0), NOT);
        Check.due("it stands", x.cost(5, 1), NOT);
    }

    private static void helpsRefused() {
        NineOpinions x = by("5", Say.town(0));
        Check.each("helps", x::helps, BAD, NEITHER);
        Check.each("helps", x::helps, NOT, 0, 1);
    }

    private static void linesRefused() {
        Check.each("lines", Say.town(0)::lines, BAD, LOW, -1, 3, HIGH);
    }

    private static void winRefused() {
        NineOpinions x = standings(Say.town(0), 0);
        Check.each("win", l -> x.win(l, 0), BAD, NO_LINES);
        Check.each("win, what", what -> x.win(0, what), BAD, NEITHER);
        Check.each("win, what", what -> x.win(0, what), NOT, 0, 1);
    }

    private static void bitsOfMatters() {
        NineOpinions x = Say.written(new NineOpinions(), 0, 3, 22);
        int[] due = {Say.bits(1, 2, 3, 4), Say.bits(0), Say.bits(5)};
        for (int what = 0; what <= 2; what++) {
            Check.due("matters(" + what + ")", x.matters(what), due[what]);
        }
    }

    private static void mattersRefused() {
        Check.each("matters", new NineOpinions()::matters, BAD, LOW, -1, 3, HIGH);
    }
}
