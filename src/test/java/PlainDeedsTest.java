import java.util.function.ToLongFunction;

/** Random runs of calls, in deed and on SHELVES: each answers what PlainDeeds answers. */
public final class PlainDeedsTest {
    private static final int RUNS = 400, CALLS = 430;
    private static final int[] ODD = {Integer.MIN_VALUE, -2, -1, 0, 1, 8, 9, 10, 24, 50, 60, 61, 4095, 4096, Integer.MAX_VALUE};
    private static final long[] LONGS = {0, 1, -1, 128, 255, 256, -32769, 32768, 65536, 1L << 31, 1L << 40, Long.MIN_VALUE};
    private static long state = 2026;

    public static void main(String[] args) {
        for (int run = 0; run < RUNS; run++) {
            play(run);
        }
        Check.end("PlainDeedsTest");
    }

    private static int draw(int below) {
        state = state * 6364136223846793005L + 1442695040888963407L;
        return (int) ((state >>> 33) % below);
    }

    private static int any(int below) {
        return draw(30) == 0 ? ODD[draw(ODD.length)] : draw(below);
    }

    private static void play(int run) {
        NineOpinions x = new NineOpinions();
        PlainDeeds plain = new PlainDeeds();
        int calls = 0;
        while (calls < CALLS) {
            calls += run % 2 == 0 ? deed(x, plain, run) : shelf(x, plain, run);
        }
        ends(x, plain, run);
    }

    private static int same(int promise, String call, ToLongFunction<NineOpinions> called, NineOpinions x, long due) {
        Check.due(promise, call, called.applyAsLong(x), due);
        return 1;
    }

    private static int deed(NineOpinions x, PlainDeeds plain, int run) {
        int one = any(9);
        int line = any(24);
        switch (draw(14)) {
            case 0:
                return same(2, run + ": person(..)", town -> town.person(100 * line), x, plain.person(100 * line));
            case 1:
                return same(6, run + ": feed(..)", town -> town.feed(line), x, plain.feed(line));
            case 2:
            case 3:
                return mended(x, plain, run, any(4), line);
            case 4:
                int what = any(5);
                return same(5, run + ": of(" + line + ", " + what + ")", town -> town.of(line, what), x, plain.of(line, what));
            case 5:
            case 6:
                return same(24, run + ": write(" + line + ")", town -> town.write(line), x, plain.write(line));
            case 7:
                return same(25, run + ": strike(" + line + ")", town -> town.strike(line), x, plain.strike(line));
            case 8:
                return same(26, run + ": rub(" + line + ")", town -> town.rub(line), x, plain.rub(line))
                    + same(28, run + ": led(4)", town -> town.led(4), x, plain.led(4));
            case 9:
                return same(27, run + ": won(" + one + ", " + line + ")", town -> town.won(one, line), x, plain.won(one, line));
            case 10:
                return draw(3) > 0 ? same(28, run + ": led(" + one + ")", town -> town.led(one), x, plain.led(one))
                    : same(29, run + ": image()", NineOpinions::image, x, plain.image());
            case 11:
                return draw(3) > 0 ? same(42, run + ": count(3)", town -> town.count(3), x, plain.count(3))
                    : same(30, run + ": back()", NineOpinions::back, x, plain.back());
            case 12:
                return same(31, run + ": undo()", NineOpinions::undo, x, plain.undo());
            default:
                return same(32, run + ": redo()", NineOpinions::redo, x, plain.redo());
        }
    }

    /** Many in a row: more changes than are kept come so. */
    private static int mended(NineOpinions x, PlainDeeds plain, int run, int what, int line) {
        int times = draw(12) == 0 ? 30 : 1 + draw(2);
        for (int i = 0; i < times; i++) {
            int number = what == 3 ? any(1) : what == 2 ? line : any(8);
            int v = what == 0 ? any(4096) : any(10);
            same(4, run + ": mend(" + number + ", " + what + ", " + v + ")", town -> town.mend(number, what, v), x,
                plain.mend(number, what, v));
        }
        return times;
    }

    private static int shelf(NineOpinions x, PlainDeeds plain, int run) {
        int on = any(6);
        int i = any(9);
        int other = any(6);
        int j = any(9);
        int n = any(9);
        switch (draw(10)) {
            case 0:
                return same(33, run + ": body(" + i + ")", town -> town.body(i), x, plain.body(i));
            case 1:
                return same(36, run + ": keep(" + on + ", " + (i - 1) + ")", town -> town.keep(on, i - 1), x, plain.keep(on, i - 1));
            case 2:
                int sort = draw(2) == 0 ? 1 : any(5);
                int size = draw(3) == 0 ? any(61) : n;
                return same(37, run + ": row(" + on + ", " + sort + ", " + size + ")", town -> town.row(on, sort, size), x,
                    plain.row(on, sort, size));
            case 3:
            case 4:
            case 5:
                long v = draw(3) == 0 ? LONGS[draw(LONGS.length)] : any(10);
                return same(38, run + ": put(" + on + ", " + i + ", " + v + ")", town -> town.put(on, i, v), x, plain.put(on, i, v));
            case 6:
                return same(39, run + ": element(" + on + ", " + i + ")", town -> town.element(on, i), x, plain.element(on, i));
            case 7:
            case 8:
                int many = draw(2) == 0 ? draw(4) : n;
                return same(40, run + ": shift(" + on + ", " + i + ", " + other + ", " + j + ", " + many + ")",
                    town -> town.shift(on, i, other, j, many), x, plain.shift(on, i, other, j, many));
            default:
                return same(3, run + ": people(" + on + ", " + i + ", " + n + ")", town -> town.people(on, i, n), x,
                    plain.people(on, i, n));
        }
    }

    private static void ends(NineOpinions x, PlainDeeds plain, int run) {
        for (int what = 0; what < 5; what++) {
            int asked = what;
            same(42, run + ": count(" + what + ") at the end", town -> town.count(asked), x, plain.count(what));
        }
        for (int one = 0; one < 8; one++) {
            Check.due(5, run + ": BELIEF at the end", x.of(one, 0), plain.of(one, 0));
            Check.due(5, run + ": STANDING at the end", x.of(one, 1), plain.of(one, 1));
        }
        for (int line = 0; line < 24; line++) {
            Check.due(5, run + ": WORN at the end", x.of(line, 2), plain.of(line, 2));
        }
    }
}
