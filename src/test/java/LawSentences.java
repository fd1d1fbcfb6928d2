/** THE LAW: what part 1 of the Terms says of it, promises 6 and 7. */
final class LawSentences {
    private static final int BAD = NineOpinions.BAD, FULL = NineOpinions.FULL;
    private static final int LOW = Check.LOW, HIGH = Check.HIGH;
    /** 2 to the 31st wraps to the least int there is. */
    private static final String LEAST = "(8192*8192*32)";

    private LawSentences() {
    }

    static void look() {
        Sentence.ofTerms(1, "THE LAW is a TEXT by THE TAPE (at most 120 bytes):", LawSentences::longest);
        Sentence.ofTerms(1, "LINES, one or more, parted by ; .", LawSentences::oneOrMore);
        Sentence.ofTerms(1, "LINE: E, or E ? E (what counts if the first is not 0).", LawSentences::conditions);
        Sentence.ofTerms(1, "E = A { | A }. A = B { & B }.", LawSentences::manyJoined);
        Sentence.ofTerms(1, "B = S, or S < S, S = S, S > S.", LawSentences::oneComparison);
        Sentence.ofTerms(1, "S = P { + P, - P }. P = O { * O, / O, % O }.", LawSentences::fromTheLeft);
        Sentence.ofTerms(1, "O = a number (1 to 4 digits),", LawSentences::digits);
        Sentence.ofTerms(1, "a NAME, ! O, - O, ( E ).", LawSentences::operands);
        Sentence.ofTerms(1, "No blanks.", LawSentences::blanks);
        Sentence.ofTerms(1, "NAMES: d by how much he is OFF, s STANDING, m the MATTER,", LawSentences::hisNames);
        Sentence.ofTerms(1, "w WORN of the nearest LINE (0: none), k how many LINES of it stand, v his VIEW.",
            LawSentences::namesOfLines);
        Sentence.ofTerms(1, "At most 6 of ( ! - ahead of an O are open at once.", LawSentences::open);
        Sentence.ofTerms(1, "Ints that wrap;", LawSentences::wraps);
        Sentence.ofTerms(1, "/ and % toward 0,", LawSentences::towardZero);
        Sentence.ofTerms(1, "by 0 they give 0;", LawSentences::byZero);
        Sentence.ofTerms(1, "| & < = > ! give 1, 0;", LawSentences::oneOrZero);
        Sentence.ofTerms(1, "all is worked out.", LawSentences::allIsWorkedOut);
        Sentence.ofTerms(1, "The first LINE without a first E, or whose first E is not 0, counts; none: 0.",
            LawSentences::firstThatCounts);
        Sentence.ofTerms(1, "FAULT: the place (from 0) of the first byte with which no TEXT goes on;", LawSentences::faults);
        Sentence.ofTerms(1, "the length, if it ends too early.", LawSentences::tooEarly);
        Sentence.ofTerms(1, "It gives how much he MINDS it (held within 0 .. 99).", LawSentences::held);
        Sentence.ofTerms(1, "Without a text: d.", LawSentences::withoutText);
        Sentence.ofPromise(6, "A byte (0 .. 255) comes to THE TAPE: how many it has.", LawSentences::feed);
        Sentence.ofPromise(6, "BAD, FULL (120).", LawSentences::feedRefused);
        Sentence.ofPromise(7, "THE TAPE becomes THE LAW: 1;", LawSentences::becomesLaw);
        Sentence.ofPromise(7, "-100 less its FAULT;", LawSentences::lessItsFault);
        Sentence.ofPromise(7, "THE TAPE is empty then.", LawSentences::emptyThen);
    }

    /** What law() answers to a TEXT on a new object. */
    private static void law(String text, int due) {
        Check.due("law of " + text, Say.law(new NineOpinions(), text), due);
    }

    private static void fault(String text, int place) {
        law(text, -100 - place);
    }

    /** One of VIEW 0, no LINES: d is 4, s 1, m 0, w, k and v 0. */
    private static void worth(String text, int due) {
        NineOpinions x = Say.town(0);
        Check.due("law of " + text, Say.law(x, text), 1);
        Check.due("by " + text, x.minds(0, 0), due);
    }

    private static void longest() {
        law("10" + "+d".repeat(59), 1);
        fault("d" + "+d".repeat(59) + "+", 120);
        worth("1" + "+1".repeat(59), 60);
        worth("9?8;" + "0?1;".repeat(28) + "7777", 8);
        worth("0?8;" + "0?1;".repeat(28) + "0012", 12);
    }

    private static void oneOrMore() {
        fault("", 0);
        law("d", 1);
        law("d;s", 1);
        law("d" + ";d".repeat(59), 1);
        fault(";", 0);
        fault("d;", 2);
        fault("d;;d", 2);
        fault(";d", 0);
        fault("d,s", 1);
    }

    private static void conditions() {
        worth("1?5;7", 5);
        worth("2?5;7", 5);
        worth("-1?5;7", 5);
        worth("0?5;7", 7);
        worth("d-4?5;7", 7);
        worth("d?5", 5);
        worth("0|1?0|5;7", 1);
        worth("0|0?5;0|7", 1);
        worth("d?3&0;7", 0);
        fault("d?s?m", 3);
        fault("?d", 0);
        fault("d?", 2);
        fault("d?;s", 2);
        fault("(d?s)", 2);
    }

    private static void manyJoined() {
        worth("0|0|0|4", 1);
        worth("0|0", 0);
        worth("1&2&3", 1);
        worth("1&2&0", 0);
        worth("1|0&0", 1);
        worth("0&0|1", 1);
        worth("0&(0|1)", 0);
        worth("1&3>2", 1);
        worth("0|1+1", 1);
        law("d" + "|d".repeat(59), 1);
        law("d" + "&d".repeat(59), 1);
        fault("d||s", 2);
        fault("d&|s", 2);
        fault("|d", 0);
        fault("&d", 0);
    }

    private static void oneComparison() {
        fault("1<2<3", 3);
        fault("1=2=3", 3);
        fault("1>2>3", 3);
        fault("1<2>3", 3);
        fault("1+2=3=1", 5);
        fault("(1<2<3)", 4);
        fault("1<", 2);
        fault("<1", 0);
        fault("1<=2", 2);
        fault("1==2", 2);
        worth("(1<2)<3", 1);
        worth("(2>1)=1", 1);
        worth("1<2&3<2", 0);
        worth("1<2|3<2", 1);
        worth("1<2?9<8;7", 0);
    }

    private static void fromTheLeft() {
        worth("20-3-4", 13);
        worth("20-3+4", 21);
        worth("80/4/5", 4);
        worth("80/4*5", 99);
        worth("60/4*5", 75);
        worth("17%7*2", 6);
        worth("17*2%7", 6);
        worth("90/7%5", 2);
        worth("2+3*4", 14);
        worth("2*3+4", 10);
        worth("(2+3)*4", 20);
        worth("20-6/2", 17);
        fault("d++s", 2);
        fault("d*/s", 2);
        fault("+d", 0);
        fault("*d", 0);
        fault("d+", 2);
        fault("d%", 2);
    }

    private static void digits() {
        worth("7", 7);
        worth("07", 7);
        worth("0012", 12);
        worth("0000", 0);
        worth("9999", 99);
        worth("9999-9950", 49);
        fault("12345", 4);
        fault("00000", 4);
        fault("d+12345", 6);
        fault("1d", 1);
        fault("1(d)", 1);
        fault("12345?d", 4);
    }

    private static void operands() {
        for (String name : new String[] {"d", "s", "m", "w", "k", "v"}) {
            law(name, 1);
            fault(name + name, 1);
            fault(name.toUpperCase(), 0);
        }
        for (char letter = 0; letter < 256; letter++) {
            if ("dsmwkv!-(0123456789".indexOf(letter) < 0) {
                fault("" + letter, 0);
            }
        }
        worth("!d", 0);
        worth("-d+9", 5);
        worth("(d)", 4);
        worth("--d", 4);
        worth("!!d", 1);
        worth("9--d", 13);
        worth("d*-1+9", 5);
        worth("!0*9", 9);
        fault("()", 1);
        fault("d!", 1);
        fault("d(", 1);
        fault("d)", 1);
        fault("(d))", 3);
        fault("(d;s)", 2);
    }

    private static void blanks() {
        fault(" d", 0);
        fault("d ", 1);
        fault("d +s", 1);
        fault("d+ s", 2);
        fault("1 2", 1);
        fault("d\t", 1);
        fault("d\n", 1);
        fault("d; s", 2);
    }

    private static void minded(String name, int one, int... due) {
        NineOpinions x = Say.town(Say.code(0, 1, 2, 3, 0, 0), Say.code(3, 3, 0, 0, 1, 2));
        Say.written(x, 0, 4, 7, 11, 12, 18);
        x.mend(0, 2, 9);
        x.mend(7, 2, 5);
        x.mend(11, 2, 1);
        x.mend(18, 2, 6);
        x.mend(0, 1, 0);
        x.mend(1, 1, 9);
        Say.law(x, name);
        for (int matter = 0; matter <= 5; matter++) {
            Check.due(name + " of " + one + " on MATTER " + matter, x.minds(one, matter), due[matter]);
        }
    }

    private static void hisNames() {
        minded("d", 0, 0, 1, 1, 3, 2, 4);
        minded("d", 1, 3, 0, 3, 0, 1, 4);
        minded("s", 0, 0, 0, 0, 0, 0, 0);
        minded("s", 1, 9, 9, 9, 9, 9, 9);
        minded("m", 0, 0, 1, 2, 3, 4, 5);
    }

    private static void namesOfLines() {
        minded("w", 0, 9, 0, 1, 0, 6, 0);
        minded("w", 1, 9, 5, 1, 0, 6, 0);
        minded("k", 0, 1, 2, 1, 1, 1, 0);
        minded("v", 0, 0, 1, 2, 3, 0, 0);
        minded("v", 1, 3, 3, 0, 0, 1, 2);
        NineOpinions x = Say.written(Say.town(0), 0, 1, 2, 3);
        x.mend(23, 2, 9);
        Say.law(x, "k");
        Check.due("all four LINES", x.minds(0, 0), 4);
        Say.law(x, "w");
        Check.due("of what does not stand", x.minds(0, 5), 0);
    }

    private static void open() {
        for (String sign : new String[] {"!", "-", "("}) {
            String close = sign.equals("(") ? ")" : "";
            law(sign.repeat(6) + "d" + close.repeat(6), 1);
            fault(sign.repeat(7) + "d" + close.repeat(7), 6);
            law(sign.repeat(6) + "d" + close.repeat(6) + "*" + sign.repeat(6) + "s" + close.repeat(6), 1);
            law("d?" + sign.repeat(6) + "d" + close.repeat(6), 1);
            law("d;" + sign.repeat(6) + "d" + close.repeat(6), 1);
            fault("d?" + sign.repeat(7), 8);
        }
        law("!(-(!(d)))", 1);
        fault("!(-(!(-d", 6);
        fault("!(-(!(!d", 6);
        fault("!(-(!((d", 6);
        law("((((((d-d-d))))))", 1);
        fault("((((((d--d", 8);
        law("(((((d--d)))))", 1);
        law("!!!!(!d)", 1);
        fault("!!!!!!(d)", 6);
        law("!d&!d&!d&!d&!d&!d&!d", 1);
        law("(d)+(d)+(d)+(d)+(d)+(d)+(d)", 1);
        law("-d--d--d--d--d--d--d", 1);
        law("(((((!d)))))*(!d)", 1);
        worth("!!!!!!d", 1);
        worth("!!!!!d", 0);
        worth("------d", 4);
        worth("((((((d))))))+1", 5);
    }

    private static void wraps() {
        worth(LEAST + "<0", 1);
        worth(LEAST + "-1>0", 1);
        worth("(" + LEAST + "-1)+1<0", 1);
        worth("-" + LEAST + "<0", 1);
        worth("-" + LEAST + "=" + LEAST, 1);
        worth(LEAST + "/-1=" + LEAST, 1);
        worth(LEAST + "%-1", 0);
        worth(LEAST + "*2", 0);
        worth(LEAST + "+" + LEAST, 0);
        worth("9999*9999*9999=-9999*9999*-9999", 1);
        // 999700029999 less 233 times 2 to the 32nd is -1027349969, which leaves 77 by 97
        worth("9999*9999*9999<0", 1);
        worth("-(9999*9999*9999%97)", 77);
        worth(LEAST, 0);
        worth(LEAST + "-1", 99);
    }

    private static void towardZero() {
        worth("7/2", 3);
        worth("9+-7/2", 6);
        worth("9+7/-2", 6);
        worth("-7/-2", 3);
        worth("7%4", 3);
        worth("9+-7%4", 6);
        worth("9+7%-4", 12);
        worth("9+-7%-4", 6);
        worth("9+-1/2", 9);
        worth("0/5", 0);
    }

    private static void byZero() {
        worth("5/0", 0);
        worth("5%0", 0);
        worth("0/0", 0);
        worth("0%0", 0);
        worth("-5/0+3", 3);
        worth("5/(d-4)+3", 3);
        worth("5%(d-4)+3", 3);
        worth(LEAST + "/0+3", 3);
        worth(LEAST + "%0+3", 3);
        worth("8/0*9+2", 2);
    }

    private static void oneOrZero() {
        String[] ones = {
            "0|7", "7|0", "-1|0", "5|9", "3&5", "-1&-2", "2<3", "-3<-2", "3=3", "0=-0", "3>2", "0>-1", "!0", "!(3-3)",
        };
        for (String text : ones) {
            worth(text, 1);
            worth("(" + text + ")*40", 40);
        }
        String[] zeros = {"0|0", "3&0", "0&3", "0&0", "3<3", "3<2", "-2<-3", "3=4", "3>3", "2>3", "!1", "!7", "!-7"};
        for (String text : zeros) {
            worth(text, 0);
            worth("9-(" + text + ")", 9);
        }
        worth(LEAST + "<" + "1", 1);
        worth("1>" + LEAST, 1);
        worth(LEAST + ">1", 0);
    }

    private static void allIsWorkedOut() {
        worth("0&1/0", 0);
        worth("1|1/0", 1);
        worth("1/0|1", 1);
        worth("0?1/0;7", 7);
        worth("7;1/0", 7);
        worth("1%0?5;6", 6);
    }

    private static void firstThatCounts() {
        worth("3;4", 3);
        worth("0?3;4;5", 4);
        worth("0?3;0?4;5", 5);
        worth("0?3;6?4;5", 4);
        worth("1?3;1?4;5", 3);
        worth("0?3", 0);
        worth("0?3;0?4;0?5", 0);
        worth("0;4", 0);
        worth("1?0;4", 0);
        worth("-1?-5;4", 0);
    }

    private static void faults() {
        fault("x", 0);
        fault("d;s;x", 4);
        fault("d+s*x", 4);
        fault("(((x", 3);
        fault("d=s=m+x", 3);
        fault("xxxx", 0);
        fault("dx)(", 1);
        fault("d" + "+d".repeat(58) + "+)+", 118);
        fault("d" + "+d".repeat(59) + "x", 119);
        NineOpinions x = new NineOpinions();
        x.feed('d');
        x.feed(0);
        Check.due("of the byte 0", x.law(), -101);
        x.feed('d');
        x.feed('d' + 128);
        Check.due("of a byte above 127", x.law(), -101);
        x.feed(255);
        Check.due("of the byte 255", x.law(), -100);
    }

    private static void tooEarly() {
        String[] early = {"", "(", "d+", "d?", "d;", "(d", "((d)", "!", "-", "d<", "d&", "d|", "d*", "((((((", "12+"};
        for (String text : early) {
            fault(text, text.length());
        }
        fault("d" + "+d".repeat(59) + "+", 120);
        fault("(1111" + "+1111".repeat(23), 120);
    }

    private static void held() {
        worth("99", 99);
        worth("100", 99);
        worth("98", 98);
        worth("9999", 99);
        worth("0", 0);
        worth("-1", 0);
        worth("0-9999", 0);
        worth(LEAST, 0);
        worth(LEAST + "-1", 99);
        NineOpinions x = Say.town(0, 0);
        Say.law(x, "s*60-70");
        x.mend(0, 1, 9);
        Check.due("held for each of PEOPLE", x.minds(8, 0), 99);
        Check.due("held on each MATTER", x.minds(0, 6), 594);
        Check.due("of both, of all", x.minds(8, 6), 594);
        x.mend(1, 1, 9);
        Check.due("99 of each", x.minds(8, 6), 1188);
        Check.due("in thought, too", x.ifLine(0), 1188);
    }

    private static void withoutText() {
        NineOpinions x = Say.written(Say.town(0, 4095), 2);
        Check.due("minds(0, 0)", x.minds(0, 0), 2);
        Check.due("minds(1, 0)", x.minds(1, 0), 1);
        Check.due("minds(1, 1)", x.minds(1, 1), 4);
        x.feed('7');
        Check.due("a TEXT on THE TAPE is no LAW yet", x.minds(0, 0), 2);
        x.feed('+');
        x.law();
        Check.due("one with a FAULT never", x.minds(0, 0), 2);
    }

    private static void feed() {
        NineOpinions x = new NineOpinions();
        Check.due("feed(0)", x.feed(0), 1);
        Check.due("feed(255)", x.feed(255), 2);
        Check.due("feed(128)", x.feed(128), 3);
        Check.due("count(2)", x.count(2), 3);
        Check.each("feed", x::feed, BAD, LOW, -1, 256, HIGH);
        Check.due("count(2)", x.count(2), 3);
    }

    private static void feedRefused() {
        NineOpinions x = Say.town(0);
        for (int i = 1; i <= 119; i++) {
            x.feed("1+".charAt(i % 2 == 1 ? 0 : 1));
        }
        Check.each("feed", x::feed, BAD, LOW, -1, 256, HIGH);
        Check.due("the 120th", x.feed('1'), 120);
        Check.each("the 121st", x::feed, FULL, '+', 0, 255);
        Check.each("of both BAD first", x::feed, BAD, LOW, -1, 256, HIGH);
        Check.due("count(2)", x.count(2), 120);
        Check.due("what is refused is not on it", x.law(), 1);
        Check.due("59 times 1, and 11", x.minds(0, 0), 70);
        Check.due("there is room again", x.feed('1'), 1);
    }

    private static void becomesLaw() {
        NineOpinions x = Say.town(0);
        Check.due("law of 5", Say.law(x, "5"), 1);
        Check.due("minds(0, 0)", x.minds(0, 0), 5);
        Check.due("law of 6+m", Say.law(x, "6+m"), 1);
        Check.due("the latest counts", x.minds(0, 5), 11);
        Check.due("a FAULT", Say.law(x, "9+"), -102);
        Check.due("makes no LAW", x.minds(0, 5), 11);
        Check.due("no TEXT", x.law(), -100);
        Check.due("makes none, either", x.minds(0, 5), 11);
        Check.due("a shorter one", Say.law(x, "m"), 1);
        Check.due("leaves nothing of the longer", x.minds(0, 4), 4);
    }

    private static void lessItsFault() {
        fault("x", 0);
        fault("dd", 1);
        fault("d" + "+d".repeat(58) + "x", 117);
        fault("d" + "+d".repeat(59) + "+", 120);
        fault("", 0);
    }

    private static void emptyThen() {
        NineOpinions x = new NineOpinions();
        Say.law(x, "d+s");
        Check.due("behind a LAW", x.count(2), 0);
        Check.due("there is nothing to be read again", x.law(), -100);
        Say.law(x, "d+");
        Check.due("behind a FAULT", x.count(2), 0);
        Check.due("the next byte is the first", x.feed('s'), 1);
        Check.due("and all there is", x.law(), 1);
    }
}
