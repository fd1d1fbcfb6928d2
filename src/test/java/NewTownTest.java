/** Promise 1. */
public final class NewTownTest {
    public static void main(String[] args) {
        NineOpinions x = new NineOpinions();
        for (int what = 0; what <= 5; what++) {
            Check.due(1, "count(" + what + ")", x.count(what), 0);
        }
        Check.due(1, "board(0)", x.board(0), 0);
        Check.due(1, "minds(8, 6)", x.minds(8, 6), 0);
        Check.due(1, "of(0, 3)", x.of(0, 3), 9);
        for (int line = 0; line < 24; line++) {
            Check.due(1, "of(line, 2)", x.of(line, 2), 0);
            Check.due(1, "of(line, 4)", x.of(line, 4), 0);
        }
        for (int what = 0; what <= 4; what++) {
            Check.due(1, "led(what)", x.led(what), 0);
        }
        for (int shelf = 0; shelf <= 5; shelf++) {
            Check.due(1, "put(shelf, 0, 0)", x.put(shelf, 0, 0), -11);
        }
        Check.due(1, "back()", x.back(), NineOpinions.STATE);
        Check.due(1, "undo()", x.undo(), NineOpinions.STATE);
        Check.due(1, "redo()", x.redo(), NineOpinions.STATE);
        Check.due(1, "trace(0)", x.trace(0), NineOpinions.BAD);
        Check.end("NewTownTest");
    }
}
