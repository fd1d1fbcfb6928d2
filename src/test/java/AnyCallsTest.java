/**
 * Any arguments in any state: no call throws, a call that is refused changes nothing, and the same calls give
 * the same answers. The promises of which a call is are told as its number.
 */
public final class AnyCallsTest {
    private static final int[] ODD = {
        Integer.MIN_VALUE, Integer.MIN_VALUE + 1, -100, -2, -1, 0, 1, 2, 3, 4, 5, 6, 7, 8, 9, 10, 11, 12, 19, 23, 24, 40, 49,
        50, 59, 60, 61, 96, 100, 101, 102, 103, 119, 120, 121, 255, 256, 301, 3030, 3131, 4095, 4096, 65536,
        Integer.MAX_VALUE - 1, Integer.MAX_VALUE,
    };
    /** A step is some calls, where it feeds: with those of told() no object is used for more than 512. */
    private static final int FIRST = 2, LAST = 42, STEPS = 320;
    private static long state;

    public static void main(String[] args) {
        for (int run = 0; run < 400; run++) {
            threeTimes(run);
        }
        Check.end("AnyCallsTest");
    }

    private static int draw(int below) {
        state = state * 6364136223846793005L + 1442695040888963407L;
        return (int) ((state >>> 33) % below);
    }

    private static int drawn(int below) {
        return draw(8) == 0 ? ODD[draw(ODD.length)] : draw(below);
    }

    /** A run of calls, the same once more, and once more without those that were refused: all answer alike. */
    private static void threeTimes(int run) {
        NineOpinions x = new NineOpinions();
        NineOpinions again = new NineOpinions();
        NineOpinions without = new NineOpinions();
        for (int i = 0; i < STEPS; i++) {
            state = run * 1000003L + i;
            draw(2);
            int promise = FIRST + draw(LAST - FIRST + 1);
            long before = state;
            long answer = call(x, promise);
            state = before;
            Check.due(promise, "run " + run + ", call " + i + ", once more", call(again, promise), answer);
            if (!isRefusal(promise, answer)) {
                state = before;
                Check.due(promise, "run " + run + ", call " + i + ", without the refused", call(without, promise), answer);
            }
        }
        Check.due(1, "run " + run + ", what there is, without the refused", told(without), told(x));
    }

    private static boolean isRefusal(int promise, long answer) {
        boolean worksOut = promise == 6 || promise == 7 || promise == 16 || promise == 34 || promise == 39;
        return !worksOut && (answer < 0 && answer >= -5 || answer <= -11 && answer >= -14);
    }

    private static int told(NineOpinions x) {
        int sum = x.board(0);
        for (int line = 0; line < 24; line++) {
            sum = 31 * sum + x.of(line, 2);
        }
        for (int one = 0; one < 8; one++) {
            sum = 31 * sum + x.of(one, 0);
            sum = 31 * sum + x.of(one, 1);
        }
        for (int what = 0; what < 6; what++) {
            sum = 31 * sum + x.count(what);
            sum = 31 * sum + x.led(what);
        }
        for (int shelf = 0; shelf < 6; shelf++) {
            sum = 31 * sum + x.taken(shelf, 0);
            for (int i = 0; i < 60; i += 7) {
                sum = 31 * sum + (int) x.element(shelf, i);
            }
        }
        return 31 * sum + x.of(0, 3);
    }

    private static long call(NineOpinions x, int promise) {
        switch (promise) {
            case 2: return x.person(drawn(4096));
            case 3: return x.people(drawn(6), drawn(10), drawn(9));
            case 4: return x.mend(drawn(8), drawn(4), drawn(10));
            case 5: return x.of(drawn(24), drawn(5));
            case 6: return fed(x);
            case 7: return x.law();
            case 8: return x.minds(drawn(9), drawn(7));
            case 9: return x.ifLine(drawn(24));
            case 10: return x.board(drawn(4));
            case 11: return x.cost(drawn(24), drawn(2));
            case 12: return x.helps(drawn(2));
            case 13: return x.lines(drawn(3));
            case 14: return x.win(drawn(24), drawn(2));
            case 15: return x.matters(drawn(3));
            case 16: return x.byTurns(100 * drawn(4) + 10 * drawn(4) + drawn(3), drawn(2));
            case 17: return x.judge(drawn(6), drawn(8));
            case 18: return x.believes(drawn(6), drawn(6), drawn(2));
            case 19: return x.whose(drawn(6), drawn(2));
            case 20: return x.agree(drawn(78), drawn(2));
            case 21: return x.like(drawn(8));
            case 22: return x.split(drawn(2));
            case 23: return x.drawn(drawn(1000000), 100 * drawn(8) + drawn(31), drawn(25) - 1);
            case 24: return x.write(drawn(24));
            case 25: return x.strike(drawn(24));
            case 26: return x.rub(drawn(24));
            case 27: return x.won(drawn(8), drawn(24));
            case 28: return x.led(drawn(5));
            case 29: return x.image();
            case 30: return x.back();
            case 31: return x.undo();
            case 32: return x.redo();
            case 33: return x.body(drawn(8));
            case 34: return x.act(drawn(20), drawn(4), drawn(100));
            case 35: return x.trace(drawn(24));
            case 36: return x.keep(drawn(6), drawn(20) - 1);
            case 37: return x.row(drawn(6), drawn(5), drawn(61));
            case 38: return x.put(drawn(6), drawn(60), (long) drawn(40) * ODD[draw(ODD.length)]);
            case 39: return x.element(drawn(6), drawn(60));
            case 40: return x.shift(drawn(6), drawn(20), drawn(6), drawn(20), drawn(20));
            case 41: return x.taken(drawn(6), drawn(8));
            default: return x.count(drawn(6));
        }
    }

    /** Some bytes, for else there would hardly ever be a LAW. */
    private static int fed(NineOpinions x) {
        String text = "d*s+w ;m?k-v (d<2)|!w&s ;d%0/0 -k*9999 ((d ;".replace(" ", "");
        int from = draw(text.length());
        for (int i = from; i < text.length() && i < from + 6; i++) {
            x.feed(text.charAt(i));
        }
        return x.feed(drawn(256));
    }
}
