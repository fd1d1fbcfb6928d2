/** Promises 24 to 32: in deed. */
public final class DeedsTest {
    private static final int BAD = NineOpinions.BAD, STATE = NineOpinions.STATE;

    public static void main(String[] args) {
        writing();
        striking();
        rubbing();
        winning();
        images();
        undoing();
        deedsAreNoChanges();
        fortyAreKept();
        theLatestFortyAreKept();
        Check.end("DeedsTest");
    }

    private static void led(NineOpinions x, int... due) {
        for (int what = 0; what < due.length; what++) {
            Check.due(28, "led(" + what + ")", x.led(what), due[what]);
        }
    }

    private static void writing() {
        NineOpinions x = new NineOpinions();
        Check.due(24, "write(-1)", x.write(-1), BAD);
        Check.due(24, "write(24)", x.write(24), BAD);
        x.mend(7, 2, 8);
        Check.due(24, "write(7)", x.write(7), 1);
        Check.due(24, "written anew it is WORN 0", x.of(7, 2), 0);
        Check.due(24, "it stands", x.write(7), STATE);
        for (int line = 8; line < 16; line++) {
            Check.due(24, "write(line)", x.write(line), line - 6);
        }
        Check.due(24, "there is no ROOM", x.write(16), STATE);
        Check.due(24, "BAD ahead of STATE", x.write(24), BAD);
        Check.due(24, "nine stand", x.count(1), 9);
        led(x, 9, 0, 0, 0, 0);
        Check.due(28, "led(-1)", x.led(-1), BAD);
        Check.due(28, "led(5)", x.led(5), BAD);
    }

    private static void striking() {
        NineOpinions x = Say.written(new NineOpinions(), 0, 23);
        x.mend(23, 2, 4);
        Check.due(25, "strike(-1)", x.strike(-1), BAD);
        Check.due(25, "strike(24)", x.strike(24), BAD);
        Check.due(25, "it does not stand", x.strike(1), STATE);
        Check.due(25, "strike(23)", x.strike(23), 1);
        Check.due(25, "it is gone", x.of(23, 4), 0);
        Check.due(25, "its WORN is kept", x.of(23, 2), 4);
        Check.due(25, "once more", x.strike(23), STATE);
        led(x, 2, 1, 0, 0, 0);
    }

    private static void rubbing() {
        NineOpinions x = Say.written(new NineOpinions(), 5);
        Check.due(26, "rub(-1)", x.rub(-1), BAD);
        Check.due(26, "rub(24)", x.rub(24), BAD);
        Check.due(26, "it does not stand", x.rub(4), STATE);
        for (int worn = 1; worn <= 9; worn++) {
            Check.due(26, "rub(5)", x.rub(5), worn);
            Check.due(26, "it stands", x.of(5, 4), 1);
        }
        led(x, 1, 0, 9, 0, 0);
        Check.due(26, "from 9 it is gone", x.rub(5), 10);
        Check.due(26, "it stands no more", x.of(5, 4), 0);
        Check.due(26, "WORN of it", x.of(5, 2), 9);
        Check.due(26, "once more", x.rub(5), STATE);
        led(x, 1, 0, 10, 0, 1);
        Check.due(26, "written anew", x.write(5), 1);
        Check.due(26, "rubbed anew", x.rub(5), 1);
    }

    private static void winning() {
        NineOpinions x = Say.town(Say.code(0, 1, 2, 3, 0, 1));
        Check.due(27, "won(1, 0)", x.won(1, 0), BAD);
        Check.due(27, "won(-1, 0)", x.won(-1, 0), BAD);
        Check.due(27, "won(0, 24)", x.won(0, 24), BAD);
        Check.due(27, "won(0, -1)", x.won(0, -1), BAD);
        Check.due(27, "it is his", x.won(0, 5), STATE);
        Check.due(27, "won(0, 7)", x.won(0, 7), Say.code(0, 3, 2, 3, 0, 1));
        Check.due(27, "won(0, 20)", x.won(0, 20), Say.code(0, 3, 2, 3, 0, 0));
        Check.due(27, "BELIEF then", x.of(0, 0), Say.code(0, 3, 2, 3, 0, 0));
        led(x, 0, 0, 0, 2, 0);
    }

    private static void images() {
        NineOpinions x = Say.written(Say.town(100, 200), 3, 8);
        x.rub(8);
        x.mend(0, 1, 5);
        Check.due(30, "there is none", x.back(), STATE);
        Check.due(29, "image()", x.image(), 2);
        Say.written(x, 9, 10);
        x.strike(3);
        x.rub(8);
        x.won(0, 3);
        x.mend(1, 0, 999);
        x.mend(1, 1, 7);
        x.mend(20, 2, 6);
        x.mend(0, 3, 8);
        x.person(300);
        x.mend(2, 0, 301);
        Check.due(30, "back()", x.back(), 2);
        Check.due(30, "THE BOARD", x.board(0), Say.bits(3, 8));
        Check.due(30, "WORN", x.of(8, 2), 1);
        Check.due(30, "WORN of what did not stand", x.of(20, 2), 0);
        Check.due(30, "BELIEF of 0", x.of(0, 0), 100);
        Check.due(30, "BELIEF of 1", x.of(1, 0), 200);
        Check.due(30, "BELIEF of one who came since", x.of(2, 0), 301);
        Check.due(30, "PEOPLE stay", x.count(0), 3);
        Check.due(30, "STANDING stays", x.of(1, 1), 7);
        Check.due(30, "ROOM stays", x.of(0, 3), 8);
        led(x, 2, 0, 1, 0, 0);
        Check.due(30, "CHANGES stay", x.count(3), 6);
        x.strike(3);
        Check.due(30, "it can be laid back once more", x.back(), 2);
        x.strike(3);
        Check.due(29, "a later image", x.image(), 1);
        Check.due(30, "the latest counts", x.back(), 1);
        Check.due(29, "an image of nothing", new NineOpinions().image(), 0);
    }

    private static void undoing() {
        NineOpinions x = Say.town(0, 0);
        x.mend(0, 0, 7);
        x.mend(1, 1, 4);
        x.mend(9, 2, 3);
        x.mend(0, 3, 5);
        x.mend(0, 3, 5);
        Check.due(31, "the same number is no change", x.count(3), 4);
        Check.due(31, "ROOM", x.undo(), 3);
        Check.due(31, "ROOM then", x.of(0, 3), 9);
        Check.due(31, "WORN", x.undo(), 2);
        Check.due(31, "WORN then", x.of(9, 2), 0);
        Check.due(31, "count(3)", x.count(3), 2);
        Check.due(32, "WORN again", x.redo(), 1);
        Check.due(32, "WORN then", x.of(9, 2), 3);
        Check.due(31, "once more", x.undo(), 2);
        Check.due(31, "STANDING", x.undo(), 1);
        Check.due(31, "STANDING then", x.of(1, 1), 1);
        Check.due(31, "BELIEF", x.undo(), 0);
        Check.due(31, "BELIEF then", x.of(0, 0), 0);
        Check.due(31, "none", x.undo(), STATE);
        Check.due(32, "BELIEF again", x.redo(), 3);
        Check.due(32, "BELIEF then", x.of(0, 0), 7);
        Check.due(32, "telling the same hinders none", x.mend(0, 0, 7), 7);
        Check.due(32, "a BAD one hinders none", x.mend(0, 0, -1), BAD);
        Check.due(32, "STANDING again", x.redo(), 2);
        Check.due(32, "another came behind", x.mend(0, 1, 0), 1);
        Check.due(32, "none", x.redo(), STATE);
        Check.due(31, "count(3)", x.count(3), 3);
    }

    private static void deedsAreNoChanges() {
        NineOpinions x = Say.town(0);
        x.mend(0, 0, 1);
        x.won(0, 2);
        x.write(3);
        x.rub(3);
        x.strike(3);
        Check.due(31, "one change", x.count(3), 1);
        Check.due(31, "undo()", x.undo(), 0);
        Check.due(31, "BELIEF as it was ahead of the change", x.of(0, 0), 0);
        x.won(0, 3);
        x.write(5);
        Check.due(32, "deeds hinder none", x.redo(), 0);
        Check.due(32, "BELIEF as it was behind it", x.of(0, 0), 1);
        Check.due(31, "LINES are not undone", x.board(0), Say.bits(5));
    }

    private static void fortyAreKept() {
        NineOpinions x = Say.town(0);
        for (int i = 1; i <= 45; i++) {
            x.mend(0, 0, i);
            Check.due(31, "how many may be UNDONE", x.count(3), Math.min(i, 40));
        }
        for (int i = 39; i >= 0; i--) {
            Check.due(31, "undo()", x.undo(), i);
            Check.due(31, "BELIEF", x.of(0, 0), i + 5);
        }
        Check.due(31, "the oldest are not kept", x.undo(), STATE);
        for (int i = 39; i >= 0; i--) {
            Check.due(32, "redo()", x.redo(), i);
        }
        Check.due(32, "BELIEF", x.of(0, 0), 45);
        Check.due(32, "none", x.redo(), STATE);
    }

    /** Changes of unlike numbers by turns: each is kept with its own. */
    private static void theLatestFortyAreKept() {
        NineOpinions x = Say.town(0, 0);
        for (int i = 0; i < 43; i++) {
            mendByTurns(x, i, i / 4 % 8 + 1);
        }
        for (int i = 42; i >= 3; i--) {
            x.undo();
            Check.due(31, "undone " + i, numberOf(x, i), i < 4 ? numberAtFirst(i) : (i - 4) / 4 % 8 + 1);
        }
        for (int i = 3; i < 43; i++) {
            x.redo();
            Check.due(32, "done again " + i, numberOf(x, i), i / 4 % 8 + 1);
        }
    }

    private static int numberAtFirst(int i) {
        return i % 4 == 3 ? 9 : 0;
    }

    private static void mendByTurns(NineOpinions x, int i, int v) {
        int[] numbers = {1, 0, 13, 0};
        x.mend(numbers[i % 4], i % 4, v);
    }

    private static int numberOf(NineOpinions x, int i) {
        int[] numbers = {1, 0, 13, 0};
        return x.of(numbers[i % 4], i % 4);
    }
}
