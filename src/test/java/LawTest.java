/** Promises 6 and 7, and what THE LAW gives (promise 8). */
public final class LawTest {
    public static void main(String[] args) {
        feeding();
        faults();
        values();
        names();
        aFaultKeepsTheLaw();
        Check.end("LawTest");
    }

    private static void feeding() {
        NineOpinions x = new NineOpinions();
        Check.due(6, "feed(-1)", x.feed(-1), NineOpinions.BAD);
        Check.due(6, "feed(256)", x.feed(256), NineOpinions.BAD);
        Check.due(6, "feed(0)", x.feed(0), 1);
        Check.due(6, "feed(255)", x.feed(255), 2);
        Check.due(6, "count(2)", x.count(2), 2);
        for (int i = 3; i <= 120; i++) {
            Check.due(6, "feed('d')", x.feed('d'), i);
        }
        Check.due(6, "the 121st", x.feed('d'), NineOpinions.FULL);
        Check.due(6, "BAD ahead of FULL", x.feed(256), NineOpinions.BAD);
        Check.due(7, "byte 0 is at fault", x.law(), -100);
        Check.due(7, "THE TAPE is empty behind a FAULT", x.count(2), 0);
        Check.due(7, "an empty TEXT ends too early", x.law(), -100);
        Check.due(7, "a TEXT of 120 bytes", Say.law(x, "d" + "+d".repeat(59) + "+"), -220);
        Check.due(7, "a LAW of 119 bytes", Say.law(x, "d" + "+d".repeat(59)), 1);
        Check.due(7, "THE TAPE is empty behind a LAW", x.count(2), 0);
    }

    private static void faults() {
        String[] good = {
            "d", "0", "9999", "0000", "d;s", "d?s", "d?s;m?w;k", "d|s|m", "d&s&m", "d<s", "d=s", "d>s", "d+s-m+w",
            "d*s/m%w", "!d", "-d", "(d)", "!!!!!!d", "------d", "((((((d))))))", "!(-(!(d)))", "d--s", "d-!s",
            "(d<s)<m", "d<s|m>w&k=v", "(d|s)*(m&w)", "!!!!!!d+!!!!!!s", "((((((d))))))*((((((s))))))", "d*-1",
            "d<s?m<w;k", "((((((d))))))?((((((s))))));((((((m))))))", "!!!!!!d?!!!!!!s",
        };
        for (String text : good) {
            Check.due(7, "law of " + text, Say.law(new NineOpinions(), text), 1);
        }
        Object[][] bad = {
            {"x", 0}, {"d ", 1}, {" d", 0}, {"12345", 4}, {"1d", 1}, {"d1", 1}, {"ds", 1}, {"d<s<m", 3},
            {"d=s>m", 3}, {"d?s?m", 3}, {"d;", 2}, {"d?", 2}, {"d+", 2}, {"(d", 2}, {"(", 1}, {"()", 1}, {"d)", 1},
            {"(d;s)", 2}, {"(d?s)", 2}, {"!", 1}, {"-", 1}, {"d!", 1}, {"d(", 1}, {"!!!!!!!d", 6}, {"-------d", 6},
            {"(((((((d", 6}, {"((((((-d", 6}, {"((((((d--s", 8}, {"(!(-(!(d", 6}, {"+d", 0}, {"d++s", 2}, {";d", 0},
            {"?d", 0}, {"d;;s", 2}, {"d&&s", 2}, {"d*/s", 2}, {"D", 0}, {"d<=s", 2}, {"!!!!!!(d)", 6}, {"d;s;x", 4},
            {"((d)", 4}, {"d?(s", 4}, {"d?;s", 2},
            {"d?!!!!!!!s", 8}, {"d;!!!!!!!s", 8},
        };
        for (Object[] pair : bad) {
            Check.due(7, "law of " + pair[0], Say.law(new NineOpinions(), (String) pair[0]), -100 - (Integer) pair[1]);
        }
        NineOpinions x = new NineOpinions();
        x.feed('d');
        x.feed(228);
        Check.due(7, "a byte above 127", x.law(), -101);
    }

    /** One with VIEW 0 of all, an empty board: d is 4, s 1, m the MATTER, w, k and v 0. */
    private static void values() {
        Object[][] worth = {
            {"7", 7}, {"99", 99}, {"100", 99}, {"9999", 99}, {"-1", 0}, {"0012", 12}, {"d", 4}, {"s", 1}, {"w", 0},
            {"k", 0}, {"v", 0}, {"2+3*4", 14}, {"(2+3)*4", 20}, {"20-3-4", 13}, {"80/4/5", 4}, {"17%7*2", 6},
            {"7/2", 3}, {"9+-7/2", 6}, {"9+-7%2", 8}, {"5/0", 0}, {"5%0", 0}, {"7/(d-4)+1", 1}, {"3|0", 1}, {"0|0", 0},
            {"0|0|5", 1}, {"3&5", 1}, {"3&0", 0}, {"2<3", 1}, {"3<3", 0}, {"3=3", 1}, {"3>2", 1}, {"2>3", 0},
            {"!0", 1}, {"!7", 0}, {"!!7", 1}, {"--7", 7}, {"5--7", 12}, {"2<3=1", 0}, {"1+2<4", 1}, {"1|0&0", 1},
            {"2*3=6&1", 1}, {"-2*-3", 6}, {"!0*9", 9}, {"-(2-9)", 7},
            {"9999*9999*9999<0", 1}, {"8192*8192*32<0", 1}, {"8192*8192*32/-1<0", 1}, {"8192*8192*32%-1", 0},
            {"8192*8192*32-1>0", 1}, {"-(8192*8192*32)<0", 1},
            {"0?5;7", 7}, {"1?5;7", 5}, {"-1?5;7", 5}, {"0?5", 0}, {"0?5;0?6", 0}, {"0?5;2?6;8", 6}, {"3;4", 3},
            {"d=4?11;12", 11}, {"d<4?11;12", 12}, {"0?1/0;1%0+3", 3},
        };
        for (Object[] pair : worth) {
            String text = (String) pair[0];
            NineOpinions x = Say.town(0);
            int told = Say.law(x, text);
            if (text.equals("2<3=1")) {
                Check.due(7, "two comparisons are none", told, -103);
            } else {
                Check.due(7, "law of " + text, told, 1);
                Check.due(8, "minds(0, 0) by " + text, x.minds(0, 0), (Integer) pair[1]);
            }
        }
    }

    private static void names() {
        NineOpinions x = Say.town(Say.code(1, 3, 0, 2, 1, 0));
        Say.written(x, 0, 2, 4, 11, 14);
        x.mend(0, 2, 6);
        x.mend(2, 2, 5);
        x.mend(11, 2, 3);
        x.mend(0, 1, 8);
        int[][] due = {
            // of MATTERS 0 to 5
            {1, 3, 3, 0, 4, 4}, {8, 8, 8, 8, 8, 8}, {0, 1, 2, 3, 4, 5}, {6, 0, 3, 0, 0, 0}, {2, 1, 1, 1, 0, 0},
            {1, 3, 0, 2, 1, 0},
        };
        for (int name = 0; name < 6; name++) {
            Say.law(x, "" + "dsmwkv".charAt(name));
            for (int matter = 0; matter < 6; matter++) {
                Check.due(8, "dsmwkv".charAt(name) + " of MATTER " + matter, x.minds(0, matter), due[name][matter]);
            }
        }
    }

    private static void aFaultKeepsTheLaw() {
        NineOpinions x = Say.town(0);
        Check.due(8, "without a TEXT", x.minds(0, 3), 4);
        Say.law(x, "d*");
        Check.due(7, "a FAULT makes no LAW", x.minds(0, 3), 4);
        Say.law(x, "m+7");
        Say.law(x, "5?");
        Check.due(7, "THE LAW stays behind a FAULT", x.minds(0, 3), 10);
        Check.due(7, "an empty TEXT is no LAW", x.law(), -100);
        Check.due(7, "THE LAW stays behind it", x.minds(0, 3), 10);
    }
}
