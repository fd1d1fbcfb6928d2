/** Promises 7 to 23 against the plain town, on towns and boards drawn by a fixed seed. */
public final class PlainRunsTest {
    private static long state = 20261118L;

    public static void main(String[] args) {
        for (int i = 0; i < 4000; i++) {
            faults(drawnText(1 + draw(3), 3));
        }
        for (int i = 0; i < 300; i++) {
            compare(i);
        }
        Check.end("PlainRunsTest");
    }

    private static int draw(int below) {
        state = state * 6364136223846793005L + 1442695040888963407L;
        return (int) ((state >>> 33) % below);
    }

    private static String drawnText(int lines, int deep) {
        StringBuilder text = new StringBuilder();
        for (int i = 0; i < lines; i++) {
            text.append(i == 0 ? "" : ";").append(drawnE(deep));
            text.append(draw(3) == 0 ? "?" + drawnE(deep) : "");
        }
        return text.toString();
    }

    private static String drawnE(int deep) {
        StringBuilder text = new StringBuilder(drawnO(deep));
        boolean compared = false;
        for (int i = draw(4); i > 0; i--) {
            char sign = "+-*/%|&+-*<=>".charAt(draw(compared ? 10 : 13));
            compared |= "<=>".indexOf(sign) >= 0;
            compared &= "|&".indexOf(sign) < 0;
            text.append(sign).append(drawnO(deep));
        }
        return text.toString();
    }

    private static String drawnO(int deep) {
        switch (deep > 0 ? draw(9) : draw(6)) {
            case 0:
            case 1:
                return "" + draw(draw(4) == 0 ? 10000 : 10);
            case 6:
                return "!" + drawnO(deep - 1);
            case 7:
                return "-" + drawnO(deep - 1);
            case 8:
                return "(" + drawnE(deep - 1) + ")";
            default:
                return "" + "dsmwkv".charAt(draw(6));
        }
    }

    /** A TEXT as it is drawn, and with a byte lost, put in or put for another one. */
    private static void faults(String drawn) {
        StringBuilder text = new StringBuilder(drawn);
        if (draw(3) > 0) {
            int at = draw(text.length());
            char letter = "0123456789dsmwkv!-()!-()|&<=>+-*/%?; x".charAt(draw(38));
            if (draw(3) == 0) {
                text.deleteCharAt(at);
            } else if (draw(2) == 0) {
                text.insert(at, letter);
            } else {
                text.setCharAt(at, letter);
            }
        }
        String told = text.length() > 60 ? text.substring(0, 60) : text.toString();
        int fault = PlainText.fault(told);
        Check.due(7, "law of " + told, Say.law(new NineOpinions(), told), fault < 0 ? 1 : -100 - fault);
    }

    private static void compare(int number) {
        NineOpinions x = new NineOpinions();
        PlainTown plain = new PlainTown();
        settle(x, plain, number);
        thoughts(x, plain, number);
        votes(x, plain, number);
        books(x, plain, number);
        if (plain.people.size() > 1) {
            turns(x, plain, number);
        }
        int seed = draw(1 << 30);
        int n = 1 + draw(30);
        int m = 1 + draw(30);
        int line = draw(24);
        Check.due(23, number + " drawn", x.drawn(seed, 100 * n + m, -1), plain.drawn(seed, n, m, -1));
        Check.due(23, number + " drawn, a LINE", x.drawn(seed, 100 * n + m, line), plain.drawn(seed, n, m, line));
    }

    private static void settle(NineOpinions x, PlainTown plain, int number) {
        int people = draw(9);
        for (int one = 0; one < people; one++) {
            int belief = draw(4096) & (draw(2) == 0 ? 4095 : 0x555);
            int standing = draw(3) == 0 ? draw(10) : 1;
            plain.person(belief, standing);
            x.person(belief);
            x.mend(one, 1, standing);
        }
        for (int i = draw(10); i > 0; i--) {
            int line = draw(24);
            int worn = draw(10);
            x.write(line);
            plain.board[line] = worn;
            x.mend(line, 2, worn);
        }
        for (int i = draw(5); i > 0; i--) {
            int line = draw(24);
            x.mend(line, 2, 9);
            plain.board[line] = plain.board[line] >= 0 ? 9 : -1;
        }
        plain.room = 1 + draw(9);
        x.mend(0, 3, plain.room);
        String law = drawnText(1 + draw(3), 2);
        if (number % 4 > 0 && law.length() <= 120) {
            plain.law = law;
            Check.due(7, "law of " + law, Say.law(x, law), 1);
        }
    }

    private static void thoughts(NineOpinions x, PlainTown plain, int number) {
        for (int one = 0; one < plain.people.size(); one++) {
            for (int matter = 0; matter < 6; matter++) {
                Check.due(8, number + " minds", x.minds(one, matter), plain.minds(one, matter, plain.board));
            }
            Check.due(8, number + " minds, all MATTERS", x.minds(one, 6), plain.mindsAll(one, plain.board));
        }
        Check.due(8, number + " all of PEOPLE", x.minds(8, 6), plain.allMind(plain.board));
        for (int line = 0; line < 24; line++) {
            Check.due(9, number + " ifLine", x.ifLine(line), plain.allMind(PlainTown.changed(plain.board, line)));
            int[] cost = plain.cost(line);
            Check.due(11, number + " cost, which", x.cost(line, 0), cost == null ? -2 : cost[0]);
            Check.due(11, number + " cost, how much", x.cost(line, 1), cost == null ? -2 : cost[1]);
        }
        int[] helps = plain.helps();
        Check.due(12, number + " helps, which", x.helps(0), helps == null ? -2 : helps[0]);
        Check.due(12, number + " helps, that", x.helps(1), helps == null ? -2 : helps[1]);
        Check.due(10, number + " THE BOARD", x.board(0), PlainTown.bits(plain.board));
        if (plain.room < 6 || number % 10 == 0) {
            int[] nearest = plain.nearest();
            Check.due(10, number + " nearest, how much", x.board(1), nearest[0]);
            Check.due(10, number + " nearest, which", x.board(2), nearest[1]);
            Check.due(10, number + " strokes", x.board(3), Integer.bitCount(nearest[1] ^ PlainTown.bits(plain.board)));
        }
    }

    private static void votes(NineOpinions x, PlainTown plain, int number) {
        for (int what = 0; what < 3; what++) {
            Check.due(13, number + " lines(" + what + ")", x.lines(what), plain.lines(what));
        }
        for (int line = 0; line < 24; line++) {
            int[] win = plain.win(line);
            Check.due(14, number + " win, how many", x.win(line, 0), win == null ? -2 : win[0]);
            Check.due(14, number + " win, who", x.win(line, 1), win == null ? -2 : win[1]);
        }
        for (int one = 0; one < plain.people.size(); one++) {
            int other = draw(plain.people.size());
            Check.due(20, number + " agree", x.agree(10 * one + other, 0), plain.agree(one, other, 0));
            Check.due(20, number + " how far", x.agree(10 * one + other, 1), plain.agree(one, other, 1));
            Check.due(21, number + " like", x.like(one), plain.like(one));
        }
        Check.due(22, number + " split", x.split(0), plain.split()[0]);
        Check.due(22, number + " split, VIEW", x.split(1), plain.split()[1]);
    }

    private static void books(NineOpinions x, PlainTown plain, int number) {
        long[] book = new long[draw(4) == 0 ? draw(61) : 2 * draw(5)];
        int belief = plain.people.isEmpty() ? draw(4096) : plain.people.get(draw(plain.people.size()))[0];
        for (int i = 0; i + 1 < book.length; i += 2) {
            int line = draw(24);
            book[i] = draw(20) == 0 ? draw(256) - 128 : line;
            boolean his = (belief >> line / 4 * 2 & 3) == line % 4;
            book[i + 1] = draw(12) == 0 ? draw(3) - 1 : his ? 0 : 1;
        }
        Say.row(x, 4, 0, book);
        int writers = 0;
        for (int one = 0; one < plain.people.size(); one++) {
            int due = PlainTown.judge(book, plain.people.get(one)[0]);
            writers += due == -2 ? 1 << one : 0;
            Check.due(17, number + " judge", x.judge(4, one), due);
        }
        Check.due(19, number + " whose", x.whose(4, 0), writers);
        Check.due(19, number + " codes", x.whose(4, 1), PlainTown.codes(book));
        for (int matter = 0; matter < 6; matter++) {
            Check.due(18, number + " believes", x.believes(4, matter, 0), PlainTown.believes(book, matter)[0]);
            Check.due(18, number + " the least", x.believes(4, matter, 1), PlainTown.believes(book, matter)[1]);
        }
    }

    private static void turns(NineOpinions x, PlainTown plain, int number) {
        int one = draw(plain.people.size());
        int other = (one + 1 + draw(plain.people.size() - 1)) % plain.people.size();
        int n = number % 25 == 0 ? 3 : 1 + draw(2);
        int[] due = plain.byTurns(one, other, n, plain.board, true);
        int abn = 100 * one + 10 * other + n;
        Check.due(16, number + " byTurns(" + abn + ", 0)", x.byTurns(abn, 0), due[0]);
        Check.due(16, number + " byTurns(" + abn + ", 1)", x.byTurns(abn, 1), due[1]);
    }
}
