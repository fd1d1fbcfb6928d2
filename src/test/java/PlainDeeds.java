import java.util.ArrayList;
import java.util.List;
import java.util.TreeMap;
import java.util.TreeSet;

/**
 * What is done in deed, mended and laid on SHELVES once more, as literally as can be, to compare with: numbers have
 * names, an image is a copy of all that it keeps, and the ROWS are arrays of the machine, which says itself what is
 * refused. Promises 2 to 6, 24 to 33 and 36 to 40.
 */
final class PlainDeeds {
    private static final int BAD = -1, FULL = -3, STATE = -5;

    /** One change: the number's name, what it was, what it became. */
    private record Change(String name, int before, int after) { }

    private record Image(TreeSet<Integer> board, TreeMap<String, Integer> numbers, int[] led) { }

    private final TreeSet<Integer> board = new TreeSet<>();
    /** "0 of 3": number 3's BELIEF, and so on, as mend() has them. */
    private final TreeMap<String, Integer> numbers = new TreeMap<>();
    private final List<Change> done = new ArrayList<>();
    private final List<Change> undone = new ArrayList<>();
    private final Object[] shelves = new Object[6];
    private int people = 0;
    private int bodies = 0;
    private int bytes = 0;
    private int[] led = new int[5];
    private Image image = null;

    PlainDeeds() {
        for (int line = 0; line < 24; line++) {
            numbers.put("2 of " + line, 0);
        }
        numbers.put("3 of 0", 9);
    }

    private static boolean within(int value, int from, int to) {
        return from <= value && value <= to;
    }

    int person(int belief) {
        return !within(belief, 0, 4095) ? BAD : people == 8 ? FULL : came(belief, 1);
    }

    private int came(int belief, int standing) {
        numbers.put("0 of " + people, belief);
        numbers.put("1 of " + people, standing);
        return people++;
    }

    int people(int shelf, int i, int n) {
        if (!within(shelf, 0, 5) || !within(n, 1, 8)) {
            return BAD;
        }
        if (shelves[shelf] == null) {
            return 0;
        }
        if (!(shelves[shelf] instanceof short[] row)) {
            return -12;
        }
        int before = people;
        for (long at = i; at < i + 2L * n; at += 2) {
            if (at < 0 || at + 1 >= row.length || people == 8 || !within(row[(int) at], 0, 4095)
                || !within(row[(int) at + 1], 0, 9)) {
                break;
            }
            came(row[(int) at], row[(int) at + 1]);
        }
        return people - before;
    }

    int mend(int number, int what, int v) {
        Integer before = numbers.get(what + " of " + number);
        int[] least = {0, 0, 0, 1};
        int[] most = {4095, 9, 9, 9};
        if (before == null || !within(v, least[what], most[what])) {
            return BAD;
        }
        if (before != v) {
            numbers.put(what + " of " + number, v);
            done.add(new Change(what + " of " + number, before, v));
            undone.clear();
            if (done.size() > 40) {
                done.remove(0);
            }
        }
        return before;
    }

    int of(int number, int what) {
        if (what == 4) {
            return !within(number, 0, 23) ? BAD : board.contains(number) ? 1 : 0;
        }
        return numbers.getOrDefault(what + " of " + number, BAD);
    }

    int feed(int letter) {
        return !within(letter, 0, 255) ? BAD : bytes == 120 ? FULL : ++bytes;
    }

    int write(int line) {
        if (!within(line, 0, 23)) {
            return BAD;
        }
        if (board.contains(line) || board.size() >= of(0, 3)) {
            return STATE;
        }
        board.add(line);
        numbers.put("2 of " + line, 0);
        led[0]++;
        return board.size();
    }

    int strike(int line) {
        if (!within(line, 0, 23)) {
            return BAD;
        }
        if (!board.remove(line)) {
            return STATE;
        }
        led[1]++;
        return board.size();
    }

    int rub(int line) {
        if (!within(line, 0, 23)) {
            return BAD;
        }
        if (!board.contains(line)) {
            return STATE;
        }
        led[2]++;
        if (of(line, 2) == 9) {
            board.remove(line);
            led[4]++;
            return 10;
        }
        return numbers.merge("2 of " + line, 1, Integer::sum);
    }

    int won(int one, int line) {
        if (!within(one, 0, people - 1) || !within(line, 0, 23)) {
            return BAD;
        }
        int worth = (int) Math.pow(4, line / 4);
        int view = of(one, 0) / worth % 4;
        if (view == line % 4) {
            return STATE;
        }
        led[3]++;
        return numbers.merge("0 of " + one, (line % 4 - view) * worth, Integer::sum);
    }

    int led(int what) {
        return within(what, 0, 4) ? led[what] : BAD;
    }

    int image() {
        image = new Image(new TreeSet<>(board), new TreeMap<>(numbers), led.clone());
        return board.size();
    }

    int back() {
        if (image == null) {
            return STATE;
        }
        board.clear();
        board.addAll(image.board);
        led = image.led.clone();
        image.numbers.forEach((name, value) -> {
            if (name.startsWith("0 ") || name.startsWith("2 ")) {
                numbers.put(name, value);
            }
        });
        return board.size();
    }

    int undo() {
        if (done.isEmpty()) {
            return STATE;
        }
        Change change = done.remove(done.size() - 1);
        numbers.put(change.name, change.before);
        undone.add(change);
        return done.size();
    }

    int redo() {
        if (undone.isEmpty()) {
            return STATE;
        }
        Change change = undone.remove(undone.size() - 1);
        numbers.put(change.name, change.after);
        done.add(change);
        return undone.size();
    }

    int body(int kind) {
        return !within(kind, 0, 7) ? BAD : bodies == 50 ? FULL : bodies++;
    }

    int keep(int shelf, int body) {
        if (!within(shelf, 0, 5) || !within(body, -1, bodies - 1)) {
            return BAD;
        }
        shelves[shelf] = body == -1 ? null : "VIEW";
        return 1;
    }

    int row(int shelf, int sort, int n) {
        if (!within(shelf, 0, 5) || !within(sort, 0, 4) || n > 60) {
            return BAD;
        }
        try {
            Object[] rows = {new byte[n], new short[n], new int[n], new long[n], new boolean[n]};
            shelves[shelf] = rows[sort];
            return 1;
        } catch (NegativeArraySizeException below) {
            return -14;
        }
    }

    int put(int shelf, int i, long v) {
        if (!within(shelf, 0, 5)) {
            return BAD;
        }
        Object row = shelves[shelf];
        if (row == null || row instanceof String) {
            return row == null ? -11 : -12;
        }
        try {
            if (row instanceof byte[] bytes) {
                bytes[i] = (byte) v;
            } else if (row instanceof short[] shorts) {
                shorts[i] = (short) v;
            } else if (row instanceof int[] ints) {
                ints[i] = (int) v;
            } else if (row instanceof long[] longs) {
                longs[i] = v;
            } else {
                ((boolean[]) row)[i] = v != 0;
            }
            return 1;
        } catch (ArrayIndexOutOfBoundsException notThere) {
            return -13;
        }
    }

    long element(int shelf, int i) {
        try {
            Object row = shelves[shelf];
            return row instanceof boolean[] booleans ? booleans[i] ? 1 : 0
                : row instanceof long[] longs ? longs[i]
                : row instanceof int[] ints ? ints[i]
                : row instanceof short[] shorts ? shorts[i] : ((byte[]) row)[i];
        } catch (ArrayIndexOutOfBoundsException | ClassCastException | NullPointerException refused) {
            return Long.MIN_VALUE;
        }
    }

    int shift(int shelf, int i, int other, int j, int n) {
        if (!within(shelf, 0, 5) || !within(other, 0, 5)) {
            return BAD;
        }
        try {
            System.arraycopy(shelves[shelf], i, shelves[other], j, n);
            return n;
        } catch (NullPointerException nothing) {
            return -11;
        } catch (ArrayStoreException unlike) {
            return -12;
        } catch (ArrayIndexOutOfBoundsException notThere) {
            return -13;
        }
    }

    int count(int what) {
        int[] counts = {people, board.size(), bytes, done.size(), bodies, 0};
        return within(what, 0, 5) ? counts[what] : BAD;
    }
}
