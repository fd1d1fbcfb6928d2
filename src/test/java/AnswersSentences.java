import java.util.ArrayList;
import java.util.List;
import java.util.function.Supplier;
import java.util.function.ToLongFunction;

/** What is answered, of several the one named first, and that it changes nothing: the end of the Terms. */
final class AnswersSentences {
    private static final int BAD = NineOpinions.BAD, NOT = NineOpinions.NOT, FULL = NineOpinions.FULL;
    private static final int STATE = NineOpinions.STATE, VOID = NineOpinions.VOID;
    private static final int MOST_CALLS = 512;

    private AnswersSentences() {
    }

    static void look() {
        Sentence.ofTerms(5, "Answers, of several the one named first: BAD (-1): no such number, or it is not as said;",
            AnswersSentences::badFirst);
        Sentence.ofTerms(5, "NOT (-2): as told; FULL (-3); STATE (-5): as told; -11 to -14.", AnswersSentences::theOthers);
        Sentence.ofTerms(5, "VOID is -2000000000.", AnswersSentences::voidIsBad);
        Sentence.ofTerms(5, "What is answered so changes nothing.", AnswersSentences::changesNothing);
        Sentence.ofTerms(5, "All memory is the class's own.", AnswersSentences::eachItsOwn);
    }

    /** All there is: eight PEOPLE, nine LINES, a TAPE of 120 bytes, fifty BODIES, nothing on SHELF 0. */
    private static NineOpinions crammed() {
        NineOpinions x = Say.written(Say.town(0, 27, 4095, 0, 1, 2, 3, 4), 0, 5, 10, 15, 16, 21, 2, 7, 8);
        for (int body = 0; body < 50; body++) {
            x.body(body % 8);
        }
        Say.law(x, "d*s+w");
        for (int i = 0; i < 120; i++) {
            x.feed("d+".charAt(i % 2));
        }
        x.mend(0, 1, 3);
        x.mend(5, 2, 9);
        x.mend(0, 1, 4);
        x.undo();
        settle(x);
        return x;
    }

    /** A little of each. */
    private static NineOpinions spare() {
        NineOpinions x = Say.written(Say.town(0), 3, 6);
        x.body(3);
        x.feed('7');
        settle(x);
        return x;
    }

    /** A VIEW on SHELF 1, ROWS of bytes, shorts and ints on 2 to 4, one that ends within a two on 5; an ACT. */
    private static void settle(NineOpinions x) {
        x.keep(1, 0);
        Say.row(x, 2, 0, 0, 1, 6, 0);
        Say.row(x, 3, 1, 4096, 1, 5, 6);
        Say.row(x, 4, 2, 7, 8, 9);
        Say.row(x, 5, 0, 3);
        x.act(0, 3, 5);
    }

    /** All that can be told of an object; what changes it comes last. */
    private static List<Long> told(NineOpinions x) {
        List<Long> told = new ArrayList<>();
        for (int one = 0; one < 8; one++) {
            told.add((long) x.of(one, 0));
            told.add((long) x.of(one, 1));
        }
        for (int line = 0; line < 24; line++) {
            told.add((long) x.of(line, 2));
        }
        for (int what = 0; what < 6; what++) {
            told.add((long) x.count(what));
            told.add((long) x.led(what));
            told.add((long) x.of(0, 3) + x.board(0));
        }
        for (int i = 0; i < 15; i++) {
            told.add((long) x.trace(i));
        }
        for (int shelf = 0; shelf < 6; shelf++) {
            told.add((long) x.taken(shelf, 0));
            told.add((long) x.shift(shelf, 0, shelf, 0, 0));
            for (int i = 0; i < 7; i++) {
                told.add(x.element(shelf, i));
            }
        }
        told.add((long) x.minds(8, 6));
        told.add((long) x.redo());
        told.add((long) x.undo());
        told.add((long) x.of(0, 1) + 10 * x.of(5, 2));
        told.add((long) x.undo());
        told.add((long) x.of(0, 1) + 10 * x.of(5, 2));
        told.add((long) x.back());
        told.add((long) x.feed('+'));
        told.add((long) x.law());
        told.add((long) x.minds(8, 6));
        return told;
    }

    private static void refused(Supplier<NineOpinions> made, String call, long due, ToLongFunction<NineOpinions> called) {
        NineOpinions x = made.get();
        Check.due(call, called.applyAsLong(x), due);
        Check.so(call + " changed nothing", told(x).equals(told(made.get())));
    }

    private static void badFirst() {
        NineOpinions x = crammed();
        Check.due("ahead of FULL, person", x.person(4096), BAD);
        Check.due("ahead of FULL, feed", x.feed(256), BAD);
        Check.due("ahead of FULL, body", x.body(8), BAD);
        Check.due("ahead of NOT, cost", x.cost(0, 2), BAD);
        Check.due("ahead of NOT, win", x.win(24, 1), BAD);
        Check.due("ahead of NOT, like", new NineOpinions().like(0), BAD);
        Check.due("ahead of STATE, write", x.write(24), BAD);
        Check.due("ahead of STATE, won", x.won(8, 0), BAD);
        Check.due("ahead of -11, put", x.put(6, -1, 0), BAD);
        Check.due("ahead of -11, judge", x.judge(0, 8), BAD);
        Check.due("ahead of -11, believes", x.believes(0, 0, 2), BAD);
        Check.due("ahead of -11, whose", x.whose(0, -1), BAD);
        Check.due("ahead of -11, shift", x.shift(0, -1, 6, -1, -1), BAD);
        Check.due("ahead of -11, taken", x.taken(0, 8), BAD);
        Check.due("ahead of -12, people", x.people(1, 0, 0), BAD);
        Check.due("ahead of -14, row", x.row(0, 5, -1), BAD);
    }

    private static void theOthers() {
        NineOpinions x = crammed();
        Check.due("NOT, cost", x.cost(0, 0), NOT);
        Check.due("FULL, person", x.person(0), FULL);
        Check.due("FULL, feed", x.feed('d'), FULL);
        Check.due("FULL, body", x.body(0), FULL);
        Check.due("STATE, write", x.write(1), STATE);
        Check.due("-11 ahead of -12, shift", x.shift(0, 0, 1, 0, 1), -11);
        Check.due("-11 ahead of -13, put", x.put(0, -1, 0), -11);
        Check.due("-11 ahead of -13, shift", x.shift(2, 99, 0, -1, -1), -11);
        Check.due("-12 ahead of -13, put", x.put(1, -1, 0), -12);
        Check.due("-12 ahead of -13, shift", x.shift(2, 99, 3, -1, -1), -12);
        Check.due("-13, shift", x.shift(2, 99, 2, -1, -1), -13);
        Check.due("-14, row", x.row(0, 0, -1), -14);
        int[] due = {-1, -2, -3, -5};
        int[] told = {BAD, NOT, FULL, STATE};
        for (int i = 0; i < due.length; i++) {
            Check.due("the number", told[i], due[i]);
        }
    }

    private static void voidIsBad() {
        Check.due("VOID", VOID, -2000000000);
        Check.due("byTurns", spare().byTurns(11, 0), -2000000000);
    }

    private static void changesNothing() {
        refusedAsBad();
        refusedByShelves();
        refused(AnswersSentences::crammed, "person(5)", FULL, x -> x.person(5));
        refused(AnswersSentences::crammed, "feed(5)", FULL, x -> x.feed(5));
        refused(AnswersSentences::crammed, "body(5)", FULL, x -> x.body(5));
        refused(AnswersSentences::crammed, "write(1), no ROOM", STATE, x -> x.write(1));
        refused(AnswersSentences::crammed, "write(5), it stands", STATE, x -> x.write(5));
        refused(AnswersSentences::crammed, "strike(1)", STATE, x -> x.strike(1));
        refused(AnswersSentences::crammed, "rub(1)", STATE, x -> x.rub(1));
        refused(AnswersSentences::crammed, "won(2, 23)", STATE, x -> x.won(2, 23));
        refused(AnswersSentences::crammed, "back()", STATE, x -> x.back());
        refused(AnswersSentences::crammed, "people(3, 2, 1), nobody", 0, x -> x.people(3, 2, 1));
        refused(AnswersSentences::spare, "undo()", STATE, x -> x.undo());
        refused(AnswersSentences::spare, "redo()", STATE, x -> x.redo());
        refused(AnswersSentences::spare, "cost(3, 0)", NOT, x -> x.cost(3, 0));
        refused(AnswersSentences::spare, "like(0)", NOT, x -> x.like(0));
        refused(AnswersSentences::spare, "people(3, 0, 2), nobody", 0, x -> x.people(3, 0, 2));
        refused(AnswersSentences::spare, "judge(5, 0), lacking", 0, x -> x.judge(5, 0));
    }

    private static void refusedAsBad() {
        List<Supplier<NineOpinions>> towns = List.of(AnswersSentences::crammed, AnswersSentences::spare);
        for (Supplier<NineOpinions> town : towns) {
            refused(town, "person(-1)", BAD, x -> x.person(-1));
            refused(town, "people(3, 2, 9)", BAD, x -> x.people(3, 2, 9));
            refused(town, "people(6, 2, 1)", BAD, x -> x.people(6, 2, 1));
            refused(town, "mend(0, 0, 4096)", BAD, x -> x.mend(0, 0, 4096));
            refused(town, "mend(0, 1, 10)", BAD, x -> x.mend(0, 1, 10));
            refused(town, "mend(0, 2, -1)", BAD, x -> x.mend(0, 2, -1));
            refused(town, "mend(0, 3, 0)", BAD, x -> x.mend(0, 3, 0));
            refused(town, "mend(8, 1, 2)", BAD, x -> x.mend(8, 1, 2));
            refused(town, "mend(0, 4, 1)", BAD, x -> x.mend(0, 4, 1));
            refused(town, "feed(256)", BAD, x -> x.feed(256));
            refused(town, "write(24)", BAD, x -> x.write(24));
            refused(town, "strike(-1)", BAD, x -> x.strike(-1));
            refused(town, "rub(24)", BAD, x -> x.rub(24));
            refused(town, "won(0, 24)", BAD, x -> x.won(0, 24));
            refused(town, "won(-1, 3)", BAD, x -> x.won(-1, 3));
            refused(town, "body(8)", BAD, x -> x.body(8));
            refused(town, "trace(24)", BAD, x -> x.trace(24));
            refused(town, "keep(1, 50)", BAD, x -> x.keep(1, 50));
            refused(town, "keep(6, -1)", BAD, x -> x.keep(6, -1));
            refused(town, "row(2, 5, 1)", BAD, x -> x.row(2, 5, 1));
            refused(town, "row(2, 0, 61)", BAD, x -> x.row(2, 0, 61));
            refused(town, "put(6, 0, 1)", BAD, x -> x.put(6, 0, 1));
            refused(town, "shift(2, 0, 6, 0, 1)", BAD, x -> x.shift(2, 0, 6, 0, 1));
            refused(town, "byTurns(117, 0)", VOID, x -> x.byTurns(117, 0));
        }
    }

    private static void refusedByShelves() {
        List<Supplier<NineOpinions>> towns = List.of(AnswersSentences::crammed, AnswersSentences::spare);
        for (Supplier<NineOpinions> town : towns) {
            refused(town, "people(4, 0, 1)", -12, x -> x.people(4, 0, 1));
            refused(town, "judge(3, 0)", -12, x -> x.judge(3, 0));
            refused(town, "believes(0, 0, 0)", -11, x -> x.believes(0, 0, 0));
            refused(town, "whose(1, 0)", -12, x -> x.whose(1, 0));
            refused(town, "row(2, 0, -1)", -14, x -> x.row(2, 0, -1));
            refused(town, "put(0, 0, 1)", -11, x -> x.put(0, 0, 1));
            refused(town, "put(1, 0, 1)", -12, x -> x.put(1, 0, 1));
            refused(town, "put(2, 4, 1)", -13, x -> x.put(2, 4, 1));
            refused(town, "element(2, 4)", Long.MIN_VALUE, x -> x.element(2, 4));
            refused(town, "shift(0, 0, 2, 0, 1)", -11, x -> x.shift(0, 0, 2, 0, 1));
            refused(town, "shift(2, 0, 0, 0, 1)", -11, x -> x.shift(2, 0, 0, 0, 1));
            refused(town, "shift(2, 0, 4, 0, 1)", -12, x -> x.shift(2, 0, 4, 0, 1));
            refused(town, "shift(2, 0, 1, 0, 1)", -12, x -> x.shift(2, 0, 1, 0, 1));
            refused(town, "shift(2, 0, 2, 2, 3), in part", -13, x -> x.shift(2, 0, 2, 2, 3));
            refused(town, "shift(2, 3, 2, 0, 2), in part", -13, x -> x.shift(2, 3, 2, 0, 2));
            refused(town, "taken(0, 0)", -11, x -> x.taken(0, 0));
            refused(town, "taken(2, 0)", -12, x -> x.taken(2, 0));
        }
    }

    /** Two objects by turns answer as each does alone, up to the last call that is promised. */
    private static void eachItsOwn() {
        List<Long> alone = told(crammed());
        NineOpinions x = crammed();
        NineOpinions y = spare();
        List<Long> other = told(y);
        Check.so("one is as it is without the other", told(x).equals(alone));
        Check.so("the other one, too", other.equals(told(spare())));
        NineOpinions last = Say.town(0);
        for (int i = 2; i < MOST_CALLS; i++) {
            Check.due("call " + i, last.rub(0), STATE);
        }
        Check.due("call " + MOST_CALLS, last.minds(0, 6), 24);
    }
}
