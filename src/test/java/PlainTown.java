import java.util.ArrayList;
import java.util.Arrays;
import java.util.List;

/**
 * The document once more, as slowly and as literally as can be, to compare with: boards in thought are copied,
 * all boards and all ways to play are tried. Only calls whose arguments are good are asked here.
 */
final class PlainTown {
    /** A board: the WORN of each LINE that stands, -1 of each that does not. */
    private static int[] emptyBoard() {
        int[] board = new int[24];
        Arrays.fill(board, -1);
        return board;
    }

    int[] board = emptyBoard();
    int[] worn = new int[24];
    int room = 9;
    List<int[]> people = new ArrayList<>();
    String law = "d";

    void person(int belief, int standing) {
        people.add(new int[] {belief, standing});
    }

    int view(int one, int matter) {
        int belief = people.get(one)[0];
        for (int i = 0; i < matter; i++) {
            belief /= 4;
        }
        return belief % 4;
    }

    static int standing(int[] on) {
        int n = 0;
        for (int w : on) {
            n += w >= 0 ? 1 : 0;
        }
        return n;
    }

    static int bits(int[] on) {
        int bits = 0;
        for (int line = 0; line < 24; line++) {
            bits += on[line] >= 0 ? 1 << line : 0;
        }
        return bits;
    }

    /** Struck, if it stands; else written, WORN 0. */
    static int[] changed(int[] on, int line) {
        int[] then = on.clone();
        then[line] = on[line] >= 0 ? -1 : 0;
        return then;
    }

    int minds(int one, int matter, int[] on) {
        int view = view(one, matter);
        int off = 4;
        int near = 0;
        int many = 0;
        for (int other = 0; other < 4; other++) {
            int w = on[4 * matter + other];
            if (w >= 0) {
                many++;
                if (Math.abs(other - view) < off) {
                    off = Math.abs(other - view);
                    near = w;
                }
            }
        }
        return PlainText.worth(law, off, people.get(one)[1], matter, near, many, view);
    }

    int mindsAll(int one, int[] on) {
        int sum = 0;
        for (int matter = 0; matter < 6; matter++) {
            sum += minds(one, matter, on);
        }
        return sum;
    }

    int allMind(int[] on) {
        int sum = 0;
        for (int one = 0; one < people.size(); one++) {
            sum += mindsAll(one, on);
        }
        return sum;
    }

    /** How much, which. All boards are tried, each MATTER's part of them being worked out once. */
    int[] nearest() {
        int[][] parts = new int[6][16];
        for (int matter = 0; matter < 6; matter++) {
            for (int views = 0; views < 16; views++) {
                int[] on = emptyBoard();
                for (int view = 0; view < 4; view++) {
                    int line = 4 * matter + view;
                    on[line] = (views >> view & 1) == 0 ? -1 : Math.max(0, board[line]);
                }
                for (int one = 0; one < people.size(); one++) {
                    parts[matter][views] += minds(one, matter, on);
                }
            }
        }
        int[] best = {Integer.MAX_VALUE, 0};
        tryBoards(parts, 5, 0, 0, room, best);
        return best;
    }

    private static void tryBoards(int[][] parts, int matter, int lines, int sum, int left, int[] best) {
        if (matter < 0) {
            if (sum < best[0] || sum == best[0] && lines < best[1]) {
                best[0] = sum;
                best[1] = lines;
            }
            return;
        }
        for (int views = 0; views < 16; views++) {
            if (Integer.bitCount(views) <= left) {
                tryBoards(parts, matter - 1, lines | views << 4 * matter, sum + parts[matter][views],
                    left - Integer.bitCount(views), best);
            }
        }
    }

    /** Which, how much; null: none. */
    int[] cost(int line) {
        int[] best = null;
        for (int struck = 0; struck < 24; struck++) {
            if (board[struck] >= 0 && board[line] < 0) {
                int sum = allMind(changed(changed(board, line), struck));
                if (best == null || sum < best[1]) {
                    best = new int[] {struck, sum};
                }
            }
        }
        return best;
    }

    int[] helps() {
        int[] best = {-2, allMind(board)};
        for (int line = 0; line < 24; line++) {
            if (board[line] >= 0 || standing(board) < room) {
                int sum = allMind(changed(board, line));
                if (sum < best[1]) {
                    best = new int[] {line, sum};
                }
            }
        }
        return best[0] == -2 ? null : best;
    }

    private boolean believes(int one, int line) {
        return view(one, line / 4) == line % 4;
    }

    /** Whether a LINE may be struck, if some of PEOPLE (bits) believed it no more. */
    private boolean may(int line, int won) {
        int against = 0;
        int all = 0;
        for (int one = 0; one < people.size(); one++) {
            all += people.get(one)[1];
            against += !believes(one, line) || (won >> one & 1) == 1 ? people.get(one)[1] : 0;
        }
        return against > all - against;
    }

    int lines(int what) {
        int bits = 0;
        for (int line = 0; line < 24; line++) {
            boolean somebody = false;
            for (int one = 0; one < people.size(); one++) {
                somebody |= believes(one, line);
            }
            boolean stands = board[line] >= 0;
            boolean so = what == 0 ? stands && may(line, 0) : what == 1 ? stands && !somebody : !stands && somebody;
            bits += so ? 1 << line : 0;
        }
        return bits;
    }

    /** How many, who; null: not even all. */
    int[] win(int line) {
        for (int many = 0; many <= people.size(); many++) {
            for (int who = 0; who < 1 << people.size(); who++) {
                boolean all = true;
                for (int one = 0; one < people.size(); one++) {
                    all &= (who >> one & 1) == 0 || believes(one, line);
                }
                if (Integer.bitCount(who) == many && all && may(line, who)) {
                    return new int[] {many, who};
                }
            }
        }
        return null;
    }

    /** What it comes to, the best first change. */
    int[] byTurns(int one, int other, int n, int[] on, boolean least) {
        if (n == 0) {
            return new int[] {mindsAll(one, on) - mindsAll(other, on), 24};
        }
        int[] best = null;
        for (int line = 0; line <= 24; line++) {
            if (line < 24 && on[line] < 0 && standing(on) >= room) {
                continue;
            }
            int end = byTurns(one, other, n - 1, line == 24 ? on : changed(on, line), !least)[0];
            if (best == null || (least ? end < best[0] : end > best[0])) {
                best = new int[] {end, line};
            }
        }
        return best;
    }

    private static boolean isSo(long[] book, int two, int belief) {
        if (2 * two + 1 >= book.length || book[2 * two] < 0 || book[2 * two] > 23) {
            return false;
        }
        int line = (int) book[2 * two];
        int view = belief / (int) Math.pow(4, line / 4) % 4;
        return book[2 * two + 1] == (view == line % 4 ? 0 : 1);
    }

    static int judge(long[] book, int belief) {
        for (int two = 0; 2 * two < book.length; two++) {
            if (!isSo(book, two, belief)) {
                return two;
            }
        }
        return -2;
    }

    static int codes(long[] book) {
        int codes = 0;
        for (int belief = 0; belief < 4096; belief++) {
            codes += judge(book, belief) == -2 ? 1 : 0;
        }
        return codes;
    }

    /** How many, the least. */
    static int[] believes(long[] book, int matter) {
        int[] found = {0, -2};
        for (int view = 3; view >= 0; view--) {
            boolean so = true;
            for (int two = 0; 2 * two < book.length; two++) {
                long line = book[2 * two];
                if (line >= 4 * matter && line < 4 * matter + 4) {
                    so &= isSo(book, two, view * (int) Math.pow(4, matter));
                }
            }
            if (so) {
                found[0]++;
                found[1] = view;
            }
        }
        return found;
    }

    int agree(int one, int other, int what) {
        int same = 0;
        int apart = 0;
        for (int matter = 0; matter < 6; matter++) {
            same += view(one, matter) == view(other, matter) ? 1 : 0;
            apart += Math.abs(view(one, matter) - view(other, matter));
        }
        return what == 0 ? same : apart;
    }

    int like(int one) {
        for (int apart = 0; apart <= 18; apart++) {
            for (int other = 0; other < people.size(); other++) {
                if (other != one && agree(one, other, 1) == apart) {
                    return other;
                }
            }
        }
        return -2;
    }

    /** Which, that VIEW. */
    int[] split() {
        int[] found = null;
        int least = 0;
        for (int matter = 0; matter < 6; matter++) {
            int[] sums = new int[4];
            for (int one = 0; one < people.size(); one++) {
                sums[view(one, matter)] += people.get(one)[1];
            }
            int common = 0;
            for (int view = 0; view < 4; view++) {
                common = sums[view] > sums[common] ? view : common;
            }
            if (found == null || sums[common] < least) {
                found = new int[] {matter, common};
                least = sums[common];
            }
        }
        return found;
    }

    int drawn(int seed, int n, int m, int line) {
        int z = seed;
        int sum = 0;
        for (int day = 0; day < n; day++) {
            int[] on = board;
            for (int stroke = 0; stroke < m; stroke++) {
                z = z * 1103515245 + 12345;
                int drawn = (z >>> 8) % 24;
                if (on[drawn] >= 0 || standing(on) < room) {
                    on = changed(on, drawn);
                }
            }
            sum += line == -1 ? allMind(on) : on[line] >= 0 ? 1 : 0;
        }
        return sum;
    }
}
