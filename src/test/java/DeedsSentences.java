import java.util.ArrayList;
import java.util.Collections;
import java.util.List;

/** Days by draws, deeds, changes, an image: part 4 of the Terms, promises 23 to 32. */
final class DeedsSentences {
    private static final int BAD = NineOpinions.BAD, STATE = NineOpinions.STATE;
    private static final int LOW = Check.LOW, HIGH = Check.HIGH;
    private static final int[] NO_LINES = {LOW, -1, 24, HIGH};

    private DeedsSentences() {
    }

    static void look() {
        draws();
        inDeed();
        Sentence.ofPromise(23, "DRAWN (nm: 100 n and m): MINDS (line -1), how often a LINE stands.", DeedsSentences::drawnWhat);
        Sentence.ofPromise(23, "BAD.", DeedsSentences::drawnRefused);
        Sentence.ofPromise(24, "A LINE is WRITTEN: how many stand.", DeedsSentences::write);
        Sentence.ofPromise(24, "BAD; STATE: it stands, or there is no ROOM.", DeedsSentences::writeRefused);
        Sentence.ofPromise(25, "It is STRUCK: how many stand.", DeedsSentences::strike);
        Sentence.ofPromise(25, "BAD; STATE: it does not stand.", DeedsSentences::strikeRefused);
        Sentence.ofPromise(26, "It is RUBBED: WORN then (10: it is gone).", DeedsSentences::rub);
        Sentence.ofPromise(26, "BAD; STATE likewise.", DeedsSentences::rubRefused);
        Sentence.ofPromise(27, "One is WON for a VIEW (a LINE's): BELIEF then.", DeedsSentences::won);
        Sentence.ofPromise(27, "BAD; STATE: it is his.", DeedsSentences::wonRefused);
        Sentence.ofPromise(28, "LED: written (what 0), struck (1), rubbed (2), won (3), gone (4). BAD.", DeedsSentences::ledRefused);
        Sentence.ofPromise(29, "AN IMAGE is kept: LINES that stand.", DeedsSentences::image);
        Sentence.ofPromise(30, "It is laid back (PEOPLE that came since: BELIEF as it is): LINES that stand.", DeedsSentences::back);
        Sentence.ofPromise(30, "STATE: there is none.", DeedsSentences::backRefused);
        Sentence.ofPromise(31, "UNDONE: how many may still be.", DeedsSentences::undo);
        Sentence.ofPromise(31, "STATE: none.", DeedsSentences::undoRefused);
        Sentence.ofPromise(32, "DONE AGAIN: how many may still be.", DeedsSentences::redo);
        Sentence.ofPromise(32, "STATE: none.", DeedsSentences::redoRefused);
    }

    private static void draws() {
        Sentence.ofTerms(4, "DRAWN: n days (1 .. 30) of m strokes (1 .. 30) from now", DeedsSentences::daysAndStrokes);
        Sentence.ofTerms(4, "by a SEED: z = z * 1103515245 + 12345 (an int; SEED at first) ahead of each:", DeedsSentences::seeds);
        Sentence.ofTerms(4, "the LINE is (z >>> 8) % 24: struck, if it stands; else written, if there is ROOM:",
            DeedsSentences::struckOrWritten);
        Sentence.ofTerms(4, "how much all MIND at the ends, all together; how often a told LINE stands at an end.",
            DeedsSentences::atTheEnds);
    }

    private static void inDeed() {
        Sentence.ofTerms(4, "IN DEED: a LINE is WRITTEN (there must be ROOM), STRUCK,", DeedsSentences::writtenWithRoom);
        Sentence.ofTerms(4, "RUBBED (WORN one more; from 9 it is gone);", DeedsSentences::goneFromNine);
        Sentence.ofTerms(4, "one is WON for a VIEW.", DeedsSentences::won);
        Sentence.ofTerms(4, "LED: written, struck, rubbed, won, LINES gone by rubbing.", DeedsSentences::led);
        Sentence.ofTerms(4, "CHANGES (all numbers of mend();", DeedsSentences::allNumbers);
        Sentence.ofTerms(4, "telling the same number is none)", DeedsSentences::sameNumber);
        Sentence.ofTerms(4, "can be UNDONE, the latest first,", DeedsSentences::latestFirst);
        Sentence.ofTerms(4, "and DONE AGAIN (as long as no other came behind);", DeedsSentences::noOtherBehind);
        Sentence.ofTerms(4, "40 at most are kept;", DeedsSentences::forty);
        Sentence.ofTerms(4, "deeds are none (BELIEF by them, too).", DeedsSentences::deedsAreNone);
        Sentence.ofTerms(4, "AN IMAGE keeps THE BOARD, WORN, BELIEFS, what LED tells.", DeedsSentences::imageKeeps);
    }

    /** The LINES that a SEED draws, worked out without an int that wraps. */
    private static List<Integer> drawnLines(int seed, int many) {
        List<Integer> lines = new ArrayList<>();
        long z = seed & 0xFFFFFFFFL;
        for (int i = 0; i < many; i++) {
            z = (z * 1103515245L + 12345L) % 0x100000000L;
            lines.add((int) (z / 256 % 24));
        }
        return lines;
    }

    /** What stands (bits) at the ends of days, one after the other. */
    private static List<Integer> ends(int seed, int days, int strokes, int now, int room) {
        List<Integer> ends = new ArrayList<>();
        List<Integer> drawn = drawnLines(seed, days * strokes);
        for (int day = 0; day < days; day++) {
            int lines = now;
            for (int line : drawn.subList(day * strokes, (day + 1) * strokes)) {
                boolean may = (lines >> line & 1) == 1 || Integer.bitCount(lines) < room;
                lines ^= may ? 1 << line : 0;
            }
            ends.add(lines);
        }
        return ends;
    }

    /** How much one of VIEW 0 of all MINDS what stands, without a LAW. */
    private static int minded(int lines) {
        int sum = 0;
        for (int matter = 0; matter <= 5; matter++) {
            int views = lines >> 4 * matter & 15;
            sum += views == 0 ? 4 : Integer.numberOfTrailingZeros(views);
        }
        return sum;
    }

    private static void drawnAs(NineOpinions x, int seed, int days, int strokes) {
        int sum = 0;
        int[] often = new int[24];
        for (int lines : ends(seed, days, strokes, x.board(0), x.of(0, 3))) {
            sum += minded(lines);
            for (int line = 0; line < 24; line++) {
                often[line] += lines >> line & 1;
            }
        }
        int nm = 100 * days + strokes;
        Check.due("drawn(" + seed + ", " + nm + ", -1)", x.drawn(seed, nm, -1), sum);
        for (int line = 0; line < 24; line++) {
            Check.due("drawn(" + seed + ", " + nm + ", " + line + ")", x.drawn(seed, nm, line), often[line]);
        }
    }

    private static void daysAndStrokes() {
        NineOpinions x = Say.written(Say.town(0), 3, 6, 20);
        drawnAs(x, 7, 1, 1);
        drawnAs(x, 7, 30, 1);
        drawnAs(x, 7, 1, 30);
        drawnAs(x, 7, 30, 30);
        Check.due("the board stays", x.board(0), Say.bits(3, 6, 20));
        Check.each("days", n -> x.drawn(7, 100 * n + 1, -1), BAD, -30, -1, 0, 31, 32, 99);
        Check.each("strokes", m -> x.drawn(7, 100 + m, -1), BAD, 0, 31, 32, 99);
        Check.each("strokes of thirty days", m -> x.drawn(7, 3000 + m, 0), BAD, 0, 31, 99);
    }

    private static void seeds() {
        for (int seed : new int[] {0, 1, -1, HIGH, LOW, LOW + 1, 1103515245}) {
            NineOpinions x = Say.town(0);
            drawnAs(x, seed, 3, 7);
            drawnAs(x, seed, 9, 2);
        }
        Check.due("the first LINE of SEED 0", Say.town(0).drawn(0, 101, 0), 1);
    }

    private static void struckOrWritten() {
        // of SEED 0 the first LINE is 0
        NineOpinions x = Say.town(0);
        Check.due("written", x.drawn(0, 101, 0), 1);
        x.write(0);
        Check.due("struck", x.drawn(0, 101, 0), 0);
        x.strike(0);
        x.write(1);
        x.mend(0, 3, 1);
        Check.due("no ROOM", x.drawn(0, 101, 0), 0);
        Check.due("what stands stays", x.drawn(0, 101, 1), 1);
        drawnAs(x, 5, 6, 8);
        x.mend(0, 3, 2);
        Check.due("ROOM", x.drawn(0, 101, 0), 1);
        drawnAs(x, 5, 6, 8);
        NineOpinions more = Say.written(Say.town(0), 0, 1, 2, 3, 4);
        more.mend(0, 3, 2);
        drawnAs(more, -9, 6, 20);
        NineOpinions worn = Say.written(Say.town(0), 0);
        Say.law(worn, "w");
        worn.mend(0, 2, 9);
        Check.due("struck, it is WORN no more", worn.drawn(0, 101, -1), 0);
        worn.strike(0);
        Check.due("it is written WORN 0", worn.drawn(0, 101, -1), 0);
        struckAndWrittenAnew();
    }

    /** A SEED that draws one LINE twice: within a day it is struck, and written WORN 0; the next day it is as now. */
    private static void struckAndWrittenAnew() {
        int seed = 0;
        while (!drawnLines(seed, 2).get(0).equals(drawnLines(seed, 2).get(1))) {
            seed++;
        }
        int line = drawnLines(seed, 1).get(0);
        NineOpinions x = Say.written(Say.town(line % 4 << 2 * (line / 4)), line);
        x.mend(line, 2, 9);
        Say.law(x, "w+k");
        Check.due("now", x.minds(0, 6), 10);
        Check.due("struck and written anew", x.drawn(seed, 102, -1), 1);
        Check.due("struck, and struck", x.drawn(seed, 201, -1), 0);
        Check.due("it stands", x.drawn(seed, 102, line), 1);
        Check.due("it does not", x.drawn(seed, 201, line), 0);
        NineOpinions beside = Say.written(Say.town(0), (line + 4) % 24);
        beside.mend((line + 4) % 24, 2, 9);
        Say.law(beside, "w");
        Check.due("one that is not drawn stays WORN", beside.drawn(seed, 102, -1), 9);
    }

    private static void atTheEnds() {
        NineOpinions x = Say.town(0, 0);
        Check.due("all MIND", x.drawn(0, 101, -1), 40);
        Say.law(x, "99");
        Check.due("as much as can be", x.drawn(1, 3030, -1), 30 * 2 * 6 * 99);
        Say.law(x, "0");
        Check.due("as little", x.drawn(1, 3030, -1), 0);
        Check.due("nobody", new NineOpinions().drawn(1, 3030, -1), 0);
        NineOpinions y = Say.written(Say.town(0), 1);
        List<Integer> drawn = drawnLines(0, 30);
        Check.due("each day begins from now", y.drawn(0, 3001, 1), 30 - Collections.frequency(drawn, 1));
    }

    private static void drawnWhat() {
        NineOpinions x = Say.town(0);
        Check.due("MINDS", x.drawn(0, 101, -1), 20);
        Check.due("LINE 0 stands", x.drawn(0, 101, 0), 1);
        Check.due("LINE 23 does not", x.drawn(0, 101, 23), 0);
        drawnAs(x, 3, 12, 30);
        drawnAs(x, 3, 30, 12);
    }

    private static void drawnRefused() {
        NineOpinions x = Say.town(0);
        Check.each("drawn", l -> x.drawn(0, 101, l), BAD, LOW, -2, 24, HIGH);
        int[] wrong = {LOW, -3030, -101, -100, -1, 0, 1, 30, 99, 100, 131, 200, 2931, 3000, 3031, 3100, 3101, 10101, HIGH};
        Check.each("drawn, nm", nm -> x.drawn(0, nm, -1), BAD, wrong);
        Check.each("drawn, nm", nm -> x.drawn(0, nm, 5), BAD, wrong);
    }

    private static void writtenWithRoom() {
        NineOpinions x = new NineOpinions();
        for (int line = 0; line <= 8; line++) {
            Check.due("with ROOM", x.write(line), line + 1);
        }
        Check.due("without", x.write(9), STATE);
        Check.due("struck", x.strike(0), 8);
        Check.due("with ROOM again", x.write(9), 9);
        Check.due("without again", x.write(0), STATE);
    }

    private static void goneFromNine() {
        NineOpinions x = Say.written(new NineOpinions(), 5, 6);
        for (int worn = 1; worn <= 9; worn++) {
            Check.due("one more", x.rub(5), worn);
            Check.due("WORN", x.of(5, 2), worn);
            Check.due("it stands", x.of(5, 4), 1);
        }
        Check.due("from 9", x.rub(5), 10);
        Check.due("it is gone", x.of(5, 4), 0);
        Check.due("one stands", x.count(1), 1);
        Check.due("WORN is kept", x.of(5, 2), 9);
        x.mend(6, 2, 9);
        Check.due("from 9 by mend()", x.rub(6), 10);
        Check.due("none stands", x.count(1), 0);
        x.write(5);
        Check.due("written anew", x.rub(5), 1);
    }

    private static void ledAs(NineOpinions x, int... due) {
        for (int what = 0; what <= 4; what++) {
            Check.due("led(" + what + ")", x.led(what), due[what]);
        }
    }

    private static void led() {
        NineOpinions x = Say.written(Say.town(0), 1, 2, 3);
        ledAs(x, 3, 0, 0, 0, 0);
        x.strike(1);
        ledAs(x, 3, 1, 0, 0, 0);
        x.mend(2, 2, 8);
        x.rub(2);
        ledAs(x, 3, 1, 1, 0, 0);
        x.rub(2);
        ledAs(x, 3, 1, 2, 0, 1);
        x.won(0, 1);
        ledAs(x, 3, 1, 2, 1, 1);
        x.write(3);
        x.strike(1);
        x.rub(1);
        x.won(0, 1);
        x.write(24);
        ledAs(x, 3, 1, 2, 1, 1);
    }

    private static void allNumbers() {
        NineOpinions x = Say.town(0, 0);
        x.mend(1, 0, 5);
        x.mend(1, 1, 0);
        x.mend(23, 2, 9);
        x.mend(0, 3, 1);
        Check.due("count(3)", x.count(3), 4);
        x.undo();
        Check.due("ROOM", x.of(0, 3), 9);
        x.undo();
        Check.due("WORN", x.of(23, 2), 0);
        x.undo();
        Check.due("STANDING", x.of(1, 1), 1);
        x.undo();
        Check.due("BELIEF", x.of(1, 0), 0);
        for (int i = 0; i < 4; i++) {
            x.redo();
        }
        int[] numbers = {1, 1, 23, 0};
        int[] due = {5, 0, 9, 1};
        for (int what = 0; what <= 3; what++) {
            Check.due("again, of what " + what, x.of(numbers[what], what), due[what]);
        }
    }

    private static void sameNumber() {
        NineOpinions x = Say.town(0);
        x.mend(0, 0, 0);
        x.mend(0, 1, 1);
        x.mend(0, 2, 0);
        x.mend(0, 3, 9);
        Check.due("none", x.count(3), 0);
        Check.due("undo()", x.undo(), STATE);
        x.mend(0, 0, 5);
        x.mend(0, 0, 6);
        x.undo();
        Check.due("the same", x.mend(0, 0, 5), 5);
        Check.due("it hinders none", x.redo(), 0);
        Check.due("BELIEF", x.of(0, 0), 6);
    }

    private static void latestFirst() {
        NineOpinions x = Say.town(0);
        for (int v = 1; v <= 5; v++) {
            x.mend(0, 0, 10 * v);
            x.mend(0, 1, v + 1);
        }
        for (int v = 5; v >= 1; v--) {
            x.undo();
            Check.due("STANDING", x.of(0, 1), v);
            Check.due("BELIEF, not yet", x.of(0, 0), 10 * v);
            x.undo();
            Check.due("BELIEF", x.of(0, 0), 10 * (v - 1));
        }
    }

    private static void noOtherBehind() {
        NineOpinions x = Say.town(0);
        x.mend(0, 0, 1);
        x.mend(0, 0, 2);
        x.mend(0, 0, 3);
        x.undo();
        x.undo();
        Check.due("one again", x.redo(), 1);
        Check.due("another comes", x.mend(0, 1, 5), 1);
        Check.due("none again", x.redo(), STATE);
        Check.due("three may be UNDONE", x.count(3), 3);
        x.undo();
        Check.due("that one again", x.redo(), 0);
        x.undo();
        x.undo();
        x.undo();
        Check.due("from the first on", x.redo(), 2);
        Check.due("BELIEF", x.of(0, 0), 1);
        NineOpinions y = Say.town(0);
        y.mend(0, 0, 1);
        y.undo();
        y.mend(0, 0, 1);
        Check.due("the same as was UNDONE is another one", y.redo(), STATE);
        Check.due("and one alone", y.count(3), 1);
    }

    /** Forty-five changes, of BELIEF, STANDING, WORN and ROOM by turns: the first five are not kept. */
    private static void forty() {
        NineOpinions x = Say.town(0, 0);
        int[] numbers = {1, 0, 13, 0};
        for (int i = 0; i < 45; i++) {
            x.mend(numbers[i % 4], i % 4, valueOf(i));
            Check.due("count(3)", x.count(3), Math.min(i + 1, 40));
        }
        for (int i = 44; i >= 5; i--) {
            Check.due("undo()", x.undo(), i - 5);
            Check.due("UNDONE " + i, x.of(numbers[i % 4], i % 4), valueOf(i - 4));
        }
        Check.due("the oldest are not kept", x.undo(), STATE);
        Check.due("BELIEF as the fifth made it", x.of(1, 0), valueOf(4));
        Check.due("ROOM as the fourth made it", x.of(0, 3), valueOf(3));
        for (int i = 5; i < 45; i++) {
            Check.due("redo()", x.redo(), 44 - i);
            Check.due("DONE AGAIN " + i, x.of(numbers[i % 4], i % 4), valueOf(i));
        }
        Check.due("none is left", x.redo(), STATE);
    }

    private static int valueOf(int change) {
        return 2 + change / 4 % 8;
    }

    private static void deedsAreNone() {
        NineOpinions x = Say.town(0);
        x.won(0, 1);
        x.write(3);
        x.rub(3);
        x.strike(3);
        x.image();
        x.back();
        x.person(7);
        Check.due("none", x.count(3), 0);
        Check.due("undo()", x.undo(), STATE);
        x.mend(0, 0, 8);
        x.won(0, 3);
        Check.due("BELIEF by it", x.of(0, 0), 11);
        x.undo();
        Check.due("as it was ahead of the change", x.of(0, 0), 1);
        x.won(0, 2);
        x.write(4);
        Check.due("deeds are no other behind it", x.redo(), 0);
        Check.due("as it was behind the change", x.of(0, 0), 8);
        Check.due("the deed stays", x.of(4, 4), 1);
    }

    private static void imageKeeps() {
        NineOpinions x = Say.written(Say.town(100, 200), 3, 8);
        x.rub(8);
        x.mend(15, 2, 7);
        x.mend(0, 3, 7);
        x.mend(1, 1, 6);
        x.image();
        Say.written(x, 0, 15);
        x.strike(3);
        x.mend(8, 2, 9);
        x.rub(8);
        x.won(0, 3);
        x.mend(1, 0, 999);
        x.mend(0, 3, 5);
        x.mend(1, 1, 4);
        x.back();
        Check.due("THE BOARD", x.board(0), Say.bits(3, 8));
        Check.due("WORN of 8", x.of(8, 2), 1);
        Check.due("WORN of 15", x.of(15, 2), 7);
        Check.due("BELIEF of 0", x.of(0, 0), 100);
        Check.due("BELIEF of 1", x.of(1, 0), 200);
        ledAs(x, 2, 0, 1, 0, 0);
        Check.due("STANDING is not kept", x.of(1, 1), 4);
        Check.due("ROOM is not kept", x.of(0, 3), 5);
        Check.due("CHANGES stay", x.count(3), 7);
    }

    private static void write() {
        NineOpinions x = new NineOpinions();
        Check.due("write(0)", x.write(0), 1);
        Check.due("write(23)", x.write(23), 2);
        x.mend(5, 2, 8);
        Check.due("write(5)", x.write(5), 3);
        Check.due("WORN of it", x.of(5, 2), 0);
        Check.due("board(0)", x.board(0), Say.bits(0, 5, 23));
    }

    private static void writeRefused() {
        NineOpinions x = Say.written(new NineOpinions(), 0);
        Check.each("write", x::write, BAD, NO_LINES);
        x.mend(0, 2, 4);
        Check.due("it stands", x.write(0), STATE);
        Check.due("its WORN stays", x.of(0, 2), 4);
        Say.written(x, 1, 2, 3, 4, 5, 6, 7, 8);
        x.mend(9, 2, 4);
        Check.due("there is no ROOM", x.write(9), STATE);
        Check.due("its WORN stays", x.of(9, 2), 4);
        Check.each("of both BAD first, write", x::write, BAD, NO_LINES);
        Check.due("led(0)", x.led(0), 9);
        x.mend(0, 3, 8);
        Check.due("less than no ROOM", x.write(9), STATE);
    }

    private static void strike() {
        NineOpinions x = Say.written(new NineOpinions(), 0, 5, 23);
        Check.due("strike(23)", x.strike(23), 2);
        Check.due("strike(0)", x.strike(0), 1);
        Check.due("strike(5)", x.strike(5), 0);
        Check.due("board(0)", x.board(0), 0);
    }

    private static void strikeRefused() {
        NineOpinions x = Say.written(new NineOpinions(), 5);
        Check.each("strike", x::strike, BAD, NO_LINES);
        Check.each("it does not stand, strike", x::strike, STATE, 0, 4, 6, 23);
        x.strike(5);
        Check.due("struck already", x.strike(5), STATE);
        Check.due("led(1)", x.led(1), 1);
    }

    private static void rub() {
        NineOpinions x = Say.written(new NineOpinions(), 23);
        Check.due("rub(23)", x.rub(23), 1);
        x.mend(23, 2, 8);
        Check.due("from 8", x.rub(23), 9);
        Check.due("from 9", x.rub(23), 10);
        Check.due("none stands", x.count(1), 0);
    }

    private static void rubRefused() {
        NineOpinions x = Say.written(new NineOpinions(), 5);
        Check.each("rub", x::rub, BAD, NO_LINES);
        Check.each("it does not stand, rub", x::rub, STATE, 0, 4, 6, 23);
        x.mend(5, 2, 9);
        x.rub(5);
        Check.due("it is gone already", x.rub(5), STATE);
        Check.due("led(2)", x.led(2), 1);
        Check.due("led(4)", x.led(4), 1);
    }

    private static void won() {
        NineOpinions x = Say.town(0, 4095);
        Check.due("of the first MATTER", x.won(0, 3), 3);
        Check.due("of the last MATTER", x.won(0, 23), 3 + 3 * 1024);
        Check.due("to a lesser VIEW", x.won(0, 21), 3 + 1024);
        Check.due("back to VIEW 0", x.won(0, 0), 1024);
        Check.due("of another one", x.won(1, 8), 4095 - 3 * 16);
        Check.due("BELIEF of 0", x.of(0, 0), 1024);
        Check.due("BELIEF of 1", x.of(1, 0), 4095 - 3 * 16);
    }

    private static void wonRefused() {
        NineOpinions x = Say.town(Say.code(0, 1, 2, 3, 0, 3));
        Check.each("won", one -> x.won(one, 1), BAD, LOW, -1, 1, 8, HIGH);
        Check.each("won for", l -> x.won(0, l), BAD, NO_LINES);
        Check.each("it is his, won for", l -> x.won(0, l), STATE, 0, 5, 10, 15, 16, 23);
        Check.due("led(3)", x.led(3), 0);
        Check.due("BELIEF", x.of(0, 0), Say.code(0, 1, 2, 3, 0, 3));
        x.won(0, 1);
        Check.due("it is his now", x.won(0, 1), STATE);
        Check.due("led(3)", x.led(3), 1);
    }

    private static void ledRefused() {
        NineOpinions x = Say.written(Say.town(0), 1, 2);
        Check.each("led", x::led, BAD, LOW, -1, 5, HIGH);
        ledAs(x, 2, 0, 0, 0, 0);
    }

    private static void image() {
        Check.due("of nothing", new NineOpinions().image(), 0);
        NineOpinions x = Say.written(new NineOpinions(), 0, 1, 2, 3, 4, 5, 6, 7, 8);
        Check.due("of nine", x.image(), 9);
        x.strike(0);
        Check.due("of eight", x.image(), 8);
        x.write(0);
        Check.due("the latest is kept", x.back(), 8);
        Check.due("as it was", x.board(0), 510);
    }

    private static void back() {
        NineOpinions x = Say.town(10);
        x.image();
        x.person(20);
        x.mend(1, 0, 21);
        x.won(1, 3);
        x.mend(0, 0, 11);
        x.write(5);
        Check.due("none stands", x.back(), 0);
        Check.due("of one who was there", x.of(0, 0), 10);
        Check.due("of one who came since", x.of(1, 0), 23);
        Check.due("he stays", x.count(0), 2);
        ledAs(x, 0, 0, 0, 0, 0);
        x.write(6);
        Check.due("once more", x.back(), 0);
        Check.due("THE BOARD", x.board(0), 0);
        NineOpinions nobody = new NineOpinions();
        nobody.image();
        nobody.person(77);
        nobody.back();
        Check.due("an image of nobody", nobody.of(0, 0), 77);
        NineOpinions less = Say.written(new NineOpinions(), 1, 2, 3);
        less.image();
        less.mend(0, 3, 1);
        Check.due("more than ROOM", less.back(), 3);
    }

    private static void backRefused() {
        NineOpinions x = Say.written(Say.town(3), 4);
        Check.due("there is none", x.back(), STATE);
        Check.due("THE BOARD stays", x.board(0), 16);
        Check.due("LED stays", x.led(0), 1);
        x.image();
        Check.due("there is one", x.back(), 1);
    }

    private static void undo() {
        NineOpinions x = Say.town(0);
        x.mend(0, 0, 1);
        x.mend(0, 0, 2);
        x.mend(0, 0, 3);
        Check.due("two", x.undo(), 2);
        Check.due("one", x.undo(), 1);
        Check.due("none", x.undo(), 0);
        Check.due("BELIEF", x.of(0, 0), 0);
    }

    private static void undoRefused() {
        NineOpinions x = Say.town(4);
        Check.due("none yet", x.undo(), STATE);
        Check.due("BELIEF", x.of(0, 0), 4);
        x.mend(0, 0, 1);
        x.undo();
        Check.due("none any more", x.undo(), STATE);
        Check.due("it can be DONE AGAIN all the same", x.redo(), 0);
    }

    private static void redo() {
        NineOpinions x = Say.town(0);
        x.mend(0, 0, 1);
        x.mend(0, 0, 2);
        x.mend(0, 0, 3);
        x.undo();
        x.undo();
        x.undo();
        for (int v = 1; v <= 3; v++) {
            Check.due("redo()", x.redo(), 3 - v);
            Check.due("BELIEF", x.of(0, 0), v);
            Check.due("count(3)", x.count(3), v);
        }
    }

    private static void redoRefused() {
        NineOpinions x = Say.town(0);
        Check.due("none yet", x.redo(), STATE);
        x.mend(0, 0, 1);
        Check.due("none is UNDONE", x.redo(), STATE);
        x.undo();
        x.redo();
        Check.due("none any more", x.redo(), STATE);
        Check.due("BELIEF", x.of(0, 0), 1);
        Check.due("count(3)", x.count(3), 1);
    }
}
