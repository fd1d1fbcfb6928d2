/** Short ways to say long runs of calls. */
final class Say {
    private Say() {
    }

    /** Feeds a TEXT and makes it THE LAW: what law() answers. */
    static int law(NineOpinions x, String text) {
        for (int i = 0; i < text.length(); i++) {
            x.feed(text.charAt(i));
        }
        return x.law();
    }

    /** Puts a ROW of a sort with these elements on a SHELF. */
    static void row(NineOpinions x, int shelf, int sort, long... elements) {
        x.row(shelf, sort, elements.length);
        for (int i = 0; i < elements.length; i++) {
            x.put(shelf, i, elements[i]);
        }
    }

    static NineOpinions town(int... beliefs) {
        NineOpinions x = new NineOpinions();
        for (int belief : beliefs) {
            x.person(belief);
        }
        return x;
    }

    static NineOpinions written(NineOpinions x, int... lines) {
        for (int line : lines) {
            x.write(line);
        }
        return x;
    }

    /** The code of a BELIEF with these VIEWS, MATTER 0 first. */
    static int code(int... views) {
        int code = 0;
        for (int matter = 5; matter >= 0; matter--) {
            code = 4 * code + views[matter];
        }
        return code;
    }

    static int bits(int... places) {
        int bits = 0;
        for (int place : places) {
            bits |= 1 << place;
        }
        return bits;
    }
}
