/** Promises 33 to 35, and what count(4) and count(5) tell (42). */
public final class ActsTest {
    private static final int VIEW = 0, DULL = 1, SHARED = 2, RUBBED = 3, WALL = 4, CHILD = 5, STRANGER = 6, FOOT = 7;
    private static final int HOLDS = 0, MINDS = 1, TRADES = 2, TELLS = 3;

    public static void main(String[] args) {
        bodies();
        acts();
        noSuchAct();
        sameAsJavasOwnKinds();
        Check.end("ActsTest");
    }

    private static void bodies() {
        NineOpinions x = new NineOpinions();
        Check.due(33, "body(-1)", x.body(-1), NineOpinions.BAD);
        Check.due(33, "body(8)", x.body(8), NineOpinions.BAD);
        for (int i = 0; i < 50; i++) {
            Check.due(33, "body(i % 8)", x.body(i % 8), i);
        }
        Check.due(33, "the 51st", x.body(0), NineOpinions.FULL);
        Check.due(33, "BAD ahead of FULL", x.body(8), NineOpinions.BAD);
        Check.due(42, "count(4)", x.count(4), 50);
        Check.due(34, "the last one's number", x.act(49, HOLDS, 0), 52);
    }

    /** One of each KIND: its number is its KIND. */
    private static NineOpinions oneOfEach() {
        NineOpinions x = new NineOpinions();
        for (int kind = 0; kind < 8; kind++) {
            x.body(kind);
        }
        return x;
    }

    private static void acts() {
        runs(VIEW, HOLDS, 10, 10, 1);
        runs(VIEW, MINDS, 10, 20, 10, 1);
        runs(VIEW, TRADES, 10, 10, 11);
        runs(VIEW, TELLS, 10, 19, 2, 10, 1, 11);
        runs(DULL, HOLDS, 10, 14, 20, 1);
        runs(DULL, MINDS, 10, 28, 10, 20, 1);
        runs(SHARED, MINDS, 10, -24, 30, 10, 1);
        runs(SHARED, TELLS, 10, -27, 2, 30, 10, 1, 11);
        runs(RUBBED, TRADES, 10, 27, 40, 11);
        runs(RUBBED, MINDS, 10, -28, 41, 30, 10, 1);
        runs(WALL, TRADES, 10, 5, 50, 11, 20, 1);
        runs(CHILD, TELLS, 10, -44 ^ 5, 60, 2, 41, 30, 10, 1, 40, 11);
        runs(STRANGER, HOLDS, 10, 32, 70, 1);
        runs(FOOT, MINDS, 10, 33, 80, 10, 20, 1, 50, 11, 20, 1);
        runs(FOOT, TELLS, 10, 38, 81, 2, 80, 10, 20, 1, 50, 11, 20, 1, 50, 11, 20, 1);
    }

    private static void runs(int kind, int act, int x, int due, int... trace) {
        NineOpinions town = oneOfEach();
        String call = "act(" + kind + ", " + act + ", " + x + ")";
        Check.due(34, call, town.act(kind, act, x), due);
        Check.due(42, "count(5) behind " + call, town.count(5), trace.length);
        for (int i = 0; i < trace.length; i++) {
            Check.due(35, "trace(" + i + ") behind " + call, town.trace(i), trace[i]);
        }
        Check.due(35, "trace(" + trace.length + ") behind " + call, town.trace(trace.length), NineOpinions.BAD);
        Check.due(35, "trace(-1)", town.trace(-1), NineOpinions.BAD);
    }

    private static void noSuchAct() {
        int[][] wrong = {{8, 0}, {-1, 0}, {50, 0}, {0, -1}, {0, 4}};
        for (int[] call : wrong) {
            NineOpinions x = oneOfEach();
            x.act(FOOT, TELLS, 3);
            Check.due(34, "act(" + call[0] + ", " + call[1] + ", 7)", x.act(call[0], call[1], 7), 0);
            Check.due(34, "no TRACE then", x.trace(0), NineOpinions.BAD);
            Check.due(42, "nothing ran", x.count(5), 0);
        }
    }

    // The same KINDS as Java has them: what is above, and super, are the machine's.
    private interface Holds {
        int n();

        default int holds(int x) {
            return x + n();
        }
    }

    private interface Tells {
        int minds(int x);

        int trades(int x);

        default int tells(int x) {
            return minds(x) - trades(1);
        }
    }

    private static class View implements Holds, Tells {
        private final int n;

        View(int n) {
            this.n = n;
        }

        public int n() {
            return n;
        }

        public int minds(int x) {
            return holds(x) * 2;
        }

        public int trades(int x) {
            return x ^ n;
        }
    }

    private static class Dull extends View {
        Dull(int n) {
            super(n);
        }

        public int holds(int x) {
            return super.holds(x) + 3;
        }
    }

    private static class Shared extends View {
        Shared(int n) {
            super(n);
        }

        public int minds(int x) {
            return -super.minds(x);
        }
    }

    private static class Rubbed extends Shared {
        Rubbed(int n) {
            super(n);
        }

        public int trades(int x) {
            return super.trades(x) * 3;
        }

        public int minds(int x) {
            return super.minds(x + 1);
        }
    }

    private static class Wall extends Dull {
        Wall(int n) {
            super(n);
        }

        public int trades(int x) {
            return super.trades(x) - holds(2);
        }
    }

    private static class Child extends Rubbed {
        Child(int n) {
            super(n);
        }

        public int tells(int x) {
            return super.tells(x) ^ 5;
        }
    }

    private static class Stranger extends View {
        Stranger(int n) {
            super(n);
        }

        public int holds(int x) {
            return super.holds(x) * 2;
        }
    }

    private static class Foot extends Wall {
        Foot(int n) {
            super(n);
        }

        public int minds(int x) {
            return super.minds(x) + trades(2);
        }

        public int tells(int x) {
            return super.tells(x) - 1;
        }
    }

    private static View ofKind(int kind, int n) {
        switch (kind) {
            case VIEW:
                return new View(n);
            case DULL:
                return new Dull(n);
            case SHARED:
                return new Shared(n);
            case RUBBED:
                return new Rubbed(n);
            case WALL:
                return new Wall(n);
            case CHILD:
                return new Child(n);
            case STRANGER:
                return new Stranger(n);
            default:
                return new Foot(n);
        }
    }

    private static void sameAsJavasOwnKinds() {
        int[] xs = {0, 1, -1, 77, Integer.MAX_VALUE, Integer.MIN_VALUE, 1431655765};
        for (int x : xs) {
            NineOpinions town = new NineOpinions();
            for (int n = 0; n < 48; n++) {
                town.body((n * 5 + n / 8) % 8);
                View view = ofKind((n * 5 + n / 8) % 8, n);
                String call = "(" + n + ", .., " + x + ")";
                Check.due(34, "holds" + call, town.act(n, HOLDS, x), view.holds(x));
                Check.due(34, "minds" + call, town.act(n, MINDS, x), view.minds(x));
                Check.due(34, "trades" + call, town.act(n, TRADES, x), view.trades(x));
                Check.due(34, "tells" + call, town.act(n, TELLS, x), view.tells(x));
            }
        }
    }
}
