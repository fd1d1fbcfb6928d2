import java.util.Arrays;

/**
 * A board by the pump, the people who mind what stands there, and what they think, play and do about it.
 *
 * Everything that a call needs is made with the object: no call makes an object or an array of its own.
 */
public final class NineOpinions {
    public static final int BAD = -1, NOT = -2, FULL = -3, STATE = -5, VOID = -2000000000;

    private static final int NOTHING_THERE = -11, OTHER_KIND = -12, NO_PLACE = -13, BELOW_ZERO = -14;
    private static final long NO_ELEMENT = 1L << 63;

    private static final int MATTERS = 6, VIEWS = 4, LINES = 24, CODES = 4096;
    private static final int MOST_PEOPLE = 8, MOST_ROOM = 9, MOST_WORN = 9, MOST_STANDING = 9;
    private static final int SHELVES = 6, NO_LINE = -1, NOTHING = -1;

    private static final int BELIEF = 0, STANDING = 1, WORN = 2, ROOM = 3, STANDS = 4;

    private final Town town;
    private final Law law;
    private final Tape tape;
    private final Thought thought;
    private final Turns turns;
    private final Votes votes;
    private final Deeds deeds;
    private final Changes changes;
    private final Bodies bodies;
    private final Shelf[] shelves;

    public NineOpinions() {
        town = new Town();
        law = new Law();
        tape = new Tape();
        thought = new Thought(town, law);
        turns = new Turns(town, thought);
        votes = new Votes(town);
        deeds = new Deeds(town);
        changes = new Changes(town);
        bodies = new Bodies();
        shelves = new Shelf[SHELVES];
        for (int i = 0; i < SHELVES; i++) {
            shelves[i] = new Shelf();
        }
    }

    // ---- people

    public int person(int belief) {
        if (!town.mayBe(BELIEF, belief)) {
            return BAD;
        }
        return town.isFull() ? FULL : town.welcome(belief, 1);
    }

    public int people(int shelf, int i, int n) {
        if (!isShelf(shelf) || n < 1 || n > MOST_PEOPLE) {
            return BAD;
        }
        Shelf row = shelves[shelf];
        if (row.isBare()) {
            return 0;
        }
        if (!row.isRowOf(Shelf.SHORTS)) {
            return OTHER_KIND;
        }
        int came = 0;
        while (came < n && comes(row, i + 2 * came)) {
            came++;
        }
        return came;
    }

    public int mend(int number, int what, int v) {
        if (!town.has(what, number) || !town.mayBe(what, v)) {
            return BAD;
        }
        int before = town.told(what, number);
        if (before != v) {
            town.tell(what, number, v);
            changes.remember(what, number, before, v);
        }
        return before;
    }

    public int of(int number, int what) {
        if (what == STANDS) {
            return isLine(number) ? bit(town.lines, number) : BAD;
        }
        return town.has(what, number) ? town.told(what, number) : BAD;
    }

    public int feed(int letter) {
        if (letter < 0 || letter > 255) {
            return BAD;
        }
        return tape.isFull() ? FULL : tape.add(letter);
    }

    public int law() {
        int fault = tape.read();
        if (fault == Tape.NO_FAULT) {
            law.adopt(tape.codes, tape.made);
        }
        tape.clear();
        return fault == Tape.NO_FAULT ? 1 : -100 - fault;
    }

    // ---- boards in thought

    public int minds(int one, int matter) {
        boolean all = one == MOST_PEOPLE;
        if (!all && !town.has(BELIEF, one) || matter < 0 || matter > MATTERS) {
            return BAD;
        }
        thought.begin(all ? town.everybody() : 1 << one, 0);
        return matter == MATTERS ? thought.inAll(town.lines, town.lines)
            : thought.onMatter(matter, town.lines, town.lines);
    }

    public int ifLine(int line) {
        return isLine(line) ? thought.ifChanged(line) : BAD;
    }

    public int board(int what) {
        switch (what) {
            case 0:
                return town.lines;
            case 1:
                return thought.leastOfBoards();
            case 2:
                return thought.nearestBoard();
            case 3:
                return Integer.bitCount(thought.nearestBoard() ^ town.lines);
            default:
                return BAD;
        }
    }

    public int cost(int line, int what) {
        if (!isLine(line) || !isOneOfTwo(what)) {
            return BAD;
        }
        int struck = thought.bestStruckFor(line);
        return what == 0 || struck == NO_LINE ? lineOrNot(struck) : thought.withInsteadOf(line, struck);
    }

    public int helps(int what) {
        if (!isOneOfTwo(what)) {
            return BAD;
        }
        int changed = thought.bestChange();
        return what == 0 || changed == NO_LINE ? lineOrNot(changed) : thought.ifChanged(changed);
    }

    public int lines(int what) {
        switch (what) {
            case 0:
                return votes.strikable();
            case 1:
                return town.lines & ~votes.believed();
            case 2:
                return votes.believed() & ~town.lines;
            default:
                return BAD;
        }
    }

    public int win(int line, int what) {
        if (!isLine(line) || !isOneOfTwo(what)) {
            return BAD;
        }
        int who = votes.fewestToWin(line);
        if (who == Votes.NOT_EVEN_ALL) {
            return NOT;
        }
        return what == 0 ? Integer.bitCount(who) : who;
    }

    public int matters(int what) {
        if (what < 0 || what > 2) {
            return BAD;
        }
        int found = 0;
        for (int matter = 0; matter < MATTERS; matter++) {
            int standing = viewsOn(town.lines, matter);
            boolean counts = what == 0 && standing == 0
                || what == 1 && bit(standing, 0) == 1 && bit(standing, VIEWS - 1) == 1
                || what == 2 && Integer.bitCount(standing) == 1;
            found |= counts ? 1 << matter : 0;
        }
        return found;
    }

    // ---- turns, books, likeness

    public int byTurns(int abn, int what) {
        if (abn < 0 || !isOneOfTwo(what)) {
            return VOID;
        }
        int one = abn / 100;
        int other = abn / 10 % 10;
        int times = abn % 10;
        if (!town.has(BELIEF, one) || !town.has(BELIEF, other) || one == other || times < 1 || times > 3) {
            return VOID;
        }
        int end = turns.play(one, other, times);
        return what == 0 ? end : turns.bestFirst;
    }

    public int judge(int shelf, int one) {
        if (!isShelf(shelf) || !town.has(BELIEF, one)) {
            return BAD;
        }
        int refusal = shelves[shelf].refusesAsRowOf(Shelf.BYTES);
        return refusal != 0 ? refusal : Book.firstWrong(shelves[shelf], town.beliefs[one]);
    }

    public int believes(int shelf, int matter, int what) {
        if (!isShelf(shelf) || matter < 0 || matter >= MATTERS || !isOneOfTwo(what)) {
            return BAD;
        }
        int refusal = shelves[shelf].refusesAsRowOf(Shelf.BYTES);
        if (refusal != 0) {
            return refusal;
        }
        int views = Book.viewsFor(shelves[shelf], matter);
        if (what == 0) {
            return Integer.bitCount(views);
        }
        return lowestViewOrNot(views);
    }

    public int whose(int shelf, int what) {
        if (!isShelf(shelf) || !isOneOfTwo(what)) {
            return BAD;
        }
        int refusal = shelves[shelf].refusesAsRowOf(Shelf.BYTES);
        if (refusal != 0) {
            return refusal;
        }
        return what == 0 ? writersOf(shelves[shelf]) : Book.codesFor(shelves[shelf]);
    }

    public int agree(int ab, int what) {
        if (ab < 0 || !isOneOfTwo(what) || !town.has(BELIEF, ab / 10) || !town.has(BELIEF, ab % 10)) {
            return BAD;
        }
        return what == 0 ? votes.sameViews(ab / 10, ab % 10) : votes.apart(ab / 10, ab % 10);
    }

    public int like(int one) {
        return town.has(BELIEF, one) ? votes.leastFar(one) : BAD;
    }

    public int split(int what) {
        if (!isOneOfTwo(what)) {
            return BAD;
        }
        int matter = votes.mostUnlike();
        return what == 0 ? matter : votes.commonest(matter);
    }

    public int drawn(int seed, int nm, int line) {
        int days = nm / 100;
        int strokes = nm % 100;
        if (days < 1 || days > 30 || strokes < 1 || strokes > 30 || line < NO_LINE || line >= LINES) {
            return BAD;
        }
        return thought.drawnDays(seed, days, strokes, line);
    }

    // ---- in deed

    public int write(int line) {
        if (!isLine(line)) {
            return BAD;
        }
        return town.stands(line) || !town.hasRoom() ? STATE : deeds.doWrite(line);
    }

    public int strike(int line) {
        if (!isLine(line)) {
            return BAD;
        }
        return town.stands(line) ? deeds.doStrike(line) : STATE;
    }

    public int rub(int line) {
        if (!isLine(line)) {
            return BAD;
        }
        return town.stands(line) ? deeds.doRub(line) : STATE;
    }

    public int won(int one, int line) {
        if (!town.has(BELIEF, one) || !isLine(line)) {
            return BAD;
        }
        return town.holdsView(one, line) ? STATE : deeds.doWin(one, line);
    }

    public int led(int what) {
        return what >= 0 && what < Deeds.LED ? deeds.led[what] : BAD;
    }

    public int image() {
        deeds.keepImage();
        return town.standing();
    }

    public int back() {
        if (!deeds.hasImage) {
            return STATE;
        }
        deeds.layBack();
        return town.standing();
    }

    public int undo() {
        return changes.undoable > 0 ? changes.undoLatest() : STATE;
    }

    public int redo() {
        return changes.undoable < changes.kept ? changes.redoNext() : STATE;
    }

    // ---- acts, shelves

    public int body(int kind) {
        if (!Bodies.isKind(kind)) {
            return BAD;
        }
        return bodies.isFull() ? FULL : bodies.add(kind);
    }

    public int act(int body, int act, int x) {
        return bodies.perform(body, act, x);
    }

    public int trace(int i) {
        return i >= 0 && i < bodies.traced() ? bodies.trail[i] : BAD;
    }

    public int keep(int shelf, int body) {
        if (!isShelf(shelf) || body != NOTHING && !bodies.has(body)) {
            return BAD;
        }
        shelves[shelf].holdBody(body);
        return 1;
    }

    public int row(int shelf, int sort, int n) {
        if (!isShelf(shelf) || sort < Shelf.BYTES || sort > Shelf.BOOLEANS || n > Shelf.MOST) {
            return BAD;
        }
        if (n < 0) {
            return BELOW_ZERO;
        }
        shelves[shelf].holdRow(sort, n);
        return 1;
    }

    public int put(int shelf, int i, long v) {
        if (!isShelf(shelf)) {
            return BAD;
        }
        int refusal = shelves[shelf].refusesPlace(i);
        if (refusal == 0) {
            shelves[shelf].lay(i, v);
        }
        return refusal == 0 ? 1 : refusal;
    }

    public long element(int shelf, int i) {
        return isShelf(shelf) && shelves[shelf].refusesPlace(i) == 0 ? shelves[shelf].cells[i] : NO_ELEMENT;
    }

    public int shift(int shelf, int i, int other, int j, int n) {
        if (!isShelf(shelf) || !isShelf(other)) {
            return BAD;
        }
        Shelf from = shelves[shelf];
        Shelf to = shelves[other];
        if (from.isBare() || to.isBare()) {
            return NOTHING_THERE;
        }
        if (!from.isRow() || !to.isRowOf(from.sort)) {
            return OTHER_KIND;
        }
        if (!from.hasPlaces(i, n) || !to.hasPlaces(j, n)) {
            return NO_PLACE;
        }
        System.arraycopy(from.cells, i, to.cells, j, n);
        return n;
    }

    public int taken(int shelf, int k) {
        if (!isShelf(shelf) || !Bodies.isKind(k)) {
            return BAD;
        }
        if (shelves[shelf].isBare()) {
            return NOTHING_THERE;
        }
        int body = shelves[shelf].body;
        return bodies.has(body) && Bodies.isUnder(bodies.kinds[body], k) ? bodies.kinds[body] : OTHER_KIND;
    }

    public int count(int what) {
        switch (what) {
            case 0:
                return town.people;
            case 1:
                return town.standing();
            case 2:
                return tape.length;
            case 3:
                return changes.undoable;
            case 4:
                return bodies.number;
            case 5:
                return bodies.ran;
            default:
                return BAD;
        }
    }

    // ---- what several calls need

    /** Whether one of PEOPLE comes from the two at a place of a ROW of shorts: nobody does where no place is. */
    private boolean comes(Shelf row, int place) {
        if (town.isFull() || !row.hasPlaces(place, 2)) {
            return false;
        }
        int belief = (int) row.cells[place];
        int standing = (int) row.cells[place + 1];
        if (!town.mayBe(BELIEF, belief) || !town.mayBe(STANDING, standing)) {
            return false;
        }
        town.welcome(belief, standing);
        return true;
    }

    private int writersOf(Shelf book) {
        int writers = 0;
        for (int one = 0; one < town.people; one++) {
            writers |= Book.firstWrong(book, town.beliefs[one]) == NOT ? 1 << one : 0;
        }
        return writers;
    }

    private static boolean isShelf(int shelf) {
        return shelf >= 0 && shelf < SHELVES;
    }

    private static boolean isLine(int line) {
        return line >= 0 && line < LINES;
    }

    private static boolean isOneOfTwo(int what) {
        return what == 0 || what == 1;
    }

    private static int lineOrNot(int line) {
        return line == NO_LINE ? NOT : line;
    }

    private static int bit(int bits, int place) {
        return bits >> place & 1;
    }

    private static int lowestViewOrNot(int views) {
        for (int view = 0; view < VIEWS; view++) {
            if (bit(views, view) == 1) {
                return view;
            }
        }
        return NOT;
    }

    /** The VIEWS of a MATTER that stand, as four bits. */
    private static int viewsOn(int lines, int matter) {
        return lines >> VIEWS * matter & 15;
    }

    private static int viewIn(int belief, int matter) {
        return belief >> 2 * matter & 3;
    }

    /** THE BOARD as it is, and PEOPLE. */
    private static final class Town {
        final int[] worn = new int[LINES];
        final int[] beliefs = new int[MOST_PEOPLE];
        final int[] standings = new int[MOST_PEOPLE];
        int lines = 0;
        int room = MOST_ROOM;
        int people = 0;

        boolean isFull() {
            return people >= MOST_PEOPLE;
        }

        int welcome(int belief, int standing) {
            int number = people;
            beliefs[number] = belief;
            standings[number] = standing;
            people++;
            return number;
        }

        int everybody() {
            return (1 << people) - 1;
        }

        boolean stands(int line) {
            return bit(lines, line) == 1;
        }

        int standing() {
            return Integer.bitCount(lines);
        }

        boolean hasRoom() {
            return standing() < room;
        }

        boolean holdsView(int one, int line) {
            return viewIn(beliefs[one], line / VIEWS) == line % VIEWS;
        }

        /** Whether there is such a number of mend(). */
        boolean has(int what, int number) {
            switch (what) {
                case BELIEF:
                case STANDING:
                    return number >= 0 && number < people;
                case WORN:
                    return isLine(number);
                case ROOM:
                    return number == 0;
                default:
                    return false;
            }
        }

        boolean mayBe(int what, int v) {
            switch (what) {
                case BELIEF:
                    return v >= 0 && v < CODES;
                case STANDING:
                    return v >= 0 && v <= MOST_STANDING;
                case WORN:
                    return v >= 0 && v <= MOST_WORN;
                case ROOM:
                    return v >= 1 && v <= MOST_ROOM;
                default:
                    return false;
            }
        }

        int told(int what, int number) {
            switch (what) {
                case BELIEF:
                    return beliefs[number];
                case STANDING:
                    return standings[number];
                case WORN:
                    return worn[number];
                default:
                    return room;
            }
        }

        void tell(int what, int number, int v) {
            switch (what) {
                case BELIEF:
                    beliefs[number] = v;
                    break;
                case STANDING:
                    standings[number] = v;
                    break;
                case WORN:
                    worn[number] = v;
                    break;
                default:
                    room = v;
                    break;
            }
        }
    }

    /**
     * THE LAW, as steps in the order in which they are worked out: what is below NAMES is a number,
     * from NAMES on a NAME, below 0 a sign.
     */
    private static final class Law {
        static final int STEPS = 128, NAMES = 10000, MOST_MINDED = 99;
        static final char NEGATE = '~';

        private final int[] steps = new int[STEPS];
        private final int[] stack = new int[STEPS];
        private final int[] names = new int[6];
        private int length = 0;
        private int top = 0;

        void adopt(int[] codes, int made) {
            System.arraycopy(codes, 0, steps, 0, made);
            length = made;
        }

        /** What the NAMES are worth from here on. */
        void hear(int off, int standing, int matter, int worn, int many, int view) {
            names[0] = off;
            names[1] = standing;
            names[2] = matter;
            names[3] = worn;
            names[4] = many;
            names[5] = view;
        }

        /** How much one MINDS what the NAMES tell. */
        int worth() {
            if (length == 0) {
                return names[0];
            }
            top = 0;
            boolean passing = false;
            for (int at = 0; at < length; at++) {
                int step = steps[at];
                if (passing) {
                    passing = step != -';';
                } else if (step >= 0) {
                    push(step < NAMES ? step : names[step - NAMES]);
                } else if (step == -';') {
                    return Math.max(0, Math.min(MOST_MINDED, pop()));
                } else if (step == -'?') {
                    passing = pop() == 0;
                } else {
                    push(worked(-step, pop()));
                }
            }
            return 0;
        }

        private int worked(int sign, int right) {
            switch (sign) {
                case '!':
                    return right == 0 ? 1 : 0;
                case NEGATE:
                    return -right;
                default:
                    return joined(pop(), sign, right);
            }
        }

        private static int joined(int left, int sign, int right) {
            switch (sign) {
                case '|':
                    return left != 0 || right != 0 ? 1 : 0;
                case '&':
                    return left != 0 && right != 0 ? 1 : 0;
                case '<':
                    return left < right ? 1 : 0;
                case '=':
                    return left == right ? 1 : 0;
                case '>':
                    return left > right ? 1 : 0;
                case '+':
                    return left + right;
                case '-':
                    return left - right;
                case '*':
                    return left * right;
                case '/':
                    return right == 0 ? 0 : left / right;
                default:
                    return right == 0 ? 0 : left % right;
            }
        }

        private void push(int value) {
            if (top < STEPS) {
                stack[top] = value;
                top++;
            }
        }

        private int pop() {
            if (top <= 0) {
                return 0;
            }
            top--;
            return stack[top];
        }
    }

    /** THE TAPE, and the reading of a TEXT on it into steps of a LAW. */
    private static final class Tape {
        static final int NO_FAULT = -1;
        private static final int MOST = 120, MOST_OPEN = 6, MOST_DIGITS = 4, END = -1;
        private static final int COMPARING = 2, OPERANDS = 5;

        private final int[] bytes = new int[MOST];
        final int[] codes = new int[Law.STEPS];
        int length = 0;
        int made = 0;
        private int at = 0;
        private boolean broken = false;

        boolean isFull() {
            return length >= MOST;
        }

        int add(int letter) {
            bytes[length] = letter;
            length++;
            return length;
        }

        void clear() {
            length = 0;
        }

        /** The FAULT, or NO_FAULT: then the steps are made. Reading never goes past the byte that is at fault. */
        int read() {
            at = 0;
            made = 0;
            broken = false;
            readLine();
            for (int i = 0; i < MOST && goesOnWith(';'); i++) {
                readLine();
            }
            return broken || at < length ? at : NO_FAULT;
        }

        private void readLine() {
            readLevel(0, 0);
            if (goesOnWith('?')) {
                make(-'?');
                readLevel(0, 0);
            }
            make(-';');
        }

        /** E, A, B, S, P are levels 0 to 4: parts of the next level, joined by the level's own signs. */
        private void readLevel(int level, int open) {
            if (level >= OPERANDS) {
                readOperand(open);
                return;
            }
            readLevel(level + 1, open);
            int most = level == COMPARING ? 1 : MOST;
            for (int i = 0; i < most && !broken && levelOf(next()) == level; i++) {
                int sign = next();
                at++;
                readLevel(level + 1, open);
                make(-sign);
            }
        }

        private void readOperand(int open) {
            int letter = next();
            if (isDigit(letter)) {
                readNumber();
            } else if (nameOf(letter) >= 0) {
                at++;
                make(Law.NAMES + nameOf(letter));
            } else if (open < MOST_OPEN && goesOnWith('(')) {
                readLevel(0, open + 1);
                broken = !goesOnWith(')');
            } else if (open < MOST_OPEN && goesOnWith('!')) {
                readOperand(open + 1);
                make(-'!');
            } else if (open < MOST_OPEN && goesOnWith('-')) {
                readOperand(open + 1);
                make(-Law.NEGATE);
            } else {
                broken = true;
            }
        }

        private void readNumber() {
            int value = 0;
            for (int i = 0; i < MOST_DIGITS && isDigit(next()); i++) {
                value = 10 * value + next() - '0';
                at++;
            }
            make(value);
        }

        private boolean goesOnWith(char letter) {
            boolean so = !broken && next() == letter;
            at += so ? 1 : 0;
            return so;
        }

        private int next() {
            return at < length ? bytes[at] : END;
        }

        private void make(int code) {
            if (made < Law.STEPS) {
                codes[made] = code;
                made++;
            }
        }

        private static boolean isDigit(int letter) {
            return letter >= '0' && letter <= '9';
        }

        private static int nameOf(int letter) {
            switch (letter) {
                case 'd':
                    return 0;
                case 's':
                    return 1;
                case 'm':
                    return 2;
                case 'w':
                    return 3;
                case 'k':
                    return 4;
                case 'v':
                    return 5;
                default:
                    return -1;
            }
        }

        private static int levelOf(int sign) {
            switch (sign) {
                case '|':
                    return 0;
                case '&':
                    return 1;
                case '<':
                case '=':
                case '>':
                    return COMPARING;
                case '+':
                case '-':
                    return 3;
                case '*':
                case '/':
                case '%':
                    return 4;
                default:
                    return -1;
            }
        }
    }

    /**
     * Boards in thought. Such a board is two numbers: the LINES that stand, and those of them that have stood
     * since now without a stroke: these are WORN as they are, all others are WORN 0.
     *
     * What a MATTER weighs depends on its own LINES alone, so each MATTER is weighed once for each of its few
     * states, and whole boards are sums.
     */
    private static final class Thought {
        private static final int STATES = 256, UNKNOWN = VOID, NONE_NEAR = -1;

        private final Town town;
        private final Law law;
        private final int[] weighed = new int[MATTERS * STATES];
        private final int[] least = new int[(MATTERS + 1) * (MOST_ROOM + 1)];
        private int added = 0;
        private int taken = 0;

        Thought(Town town, Law law) {
            this.town = town;
            this.law = law;
        }

        /** From here on boards weigh what some of PEOPLE (bits) MIND, less what others do. */
        void begin(int some, int others) {
            added = some;
            taken = others;
            Arrays.fill(weighed, UNKNOWN);
        }

        int inAll(int lines, int kept) {
            int sum = 0;
            for (int matter = 0; matter < MATTERS; matter++) {
                sum += onMatter(matter, lines, kept);
            }
            return sum;
        }

        int onMatter(int matter, int lines, int kept) {
            int place = placeOf(matter, lines, kept);
            if (weighed[place] == UNKNOWN) {
                weighed[place] = weigh(matter, viewsOn(lines, matter), viewsOn(lines & kept, matter));
            }
            return weighed[place];
        }

        private static int placeOf(int matter, int lines, int kept) {
            return STATES * matter + 16 * viewsOn(lines, matter) + viewsOn(lines & kept, matter);
        }

        private int weigh(int matter, int standing, int old) {
            int sum = 0;
            for (int one = 0; one < town.people; one++) {
                int sign = bit(added, one) - bit(taken, one);
                if (sign != 0) {
                    tellLaw(one, matter, standing, old);
                    sum += sign * law.worth();
                }
            }
            return sum;
        }

        private void tellLaw(int one, int matter, int standing, int old) {
            int view = viewIn(town.beliefs[one], matter);
            int near = nearest(view, standing);
            int off = near == NONE_NEAR ? VIEWS : Math.abs(near - view);
            boolean isOld = near != NONE_NEAR && bit(old, near) == 1;
            int worn = isOld ? town.worn[VIEWS * matter + near] : 0;
            law.hear(off, town.standings[one], matter, worn, Integer.bitCount(standing), view);
        }

        private static int nearest(int view, int standing) {
            int found = NONE_NEAR;
            for (int other = 0; other < VIEWS; other++) {
                boolean nearer = found == NONE_NEAR || Math.abs(other - view) < Math.abs(found - view);
                found = nearer && bit(standing, other) == 1 ? other : found;
            }
            return found;
        }

        private void beginWithAll() {
            begin(town.everybody(), 0);
        }

        int ifChanged(int line) {
            beginWithAll();
            return inAll(town.lines ^ 1 << line, town.lines);
        }

        int withInsteadOf(int line, int struck) {
            beginWithAll();
            return inAll((town.lines ^ 1 << struck) | 1 << line, town.lines);
        }

        int bestStruckFor(int line) {
            beginWithAll();
            int best = NO_LINE;
            int bestSum = 0;
            for (int struck = 0; struck < LINES && !town.stands(line); struck++) {
                if (town.stands(struck)) {
                    int sum = inAll((town.lines ^ 1 << struck) | 1 << line, town.lines);
                    if (best == NO_LINE || sum < bestSum) {
                        best = struck;
                        bestSum = sum;
                    }
                }
            }
            return best;
        }

        int bestChange() {
            beginWithAll();
            int best = NO_LINE;
            int bestSum = inAll(town.lines, town.lines);
            for (int line = 0; line < LINES; line++) {
                if (town.stands(line) || town.hasRoom()) {
                    int sum = inAll(town.lines ^ 1 << line, town.lines);
                    if (sum < bestSum) {
                        best = line;
                        bestSum = sum;
                    }
                }
            }
            return best;
        }

        int leastOfBoards() {
            weighAllBoards();
            return leastOf(MATTERS, town.room);
        }

        /** From the highest MATTER down the least VIEWS that reach the least sum: so the number is the least. */
        int nearestBoard() {
            weighAllBoards();
            int lines = 0;
            int room = town.room;
            for (int matter = MATTERS - 1; matter >= 0; matter--) {
                int standing = leastViews(matter, room);
                lines |= standing << VIEWS * matter;
                room -= Integer.bitCount(standing);
            }
            return lines;
        }

        private void weighAllBoards() {
            beginWithAll();
            for (int matter = 0; matter < MATTERS; matter++) {
                for (int standing = 0; standing < 16; standing++) {
                    onMatter(matter, standing << VIEWS * matter, town.lines);
                }
            }
            sumUpLeast();
        }

        /** What the first so many MATTERS weigh at least with so many LINES at most, for all such numbers. */
        private void sumUpLeast() {
            for (int room = 0; room <= MOST_ROOM; room++) {
                least[room] = 0;
            }
            for (int matter = 0; matter < MATTERS; matter++) {
                for (int room = 0; room <= MOST_ROOM; room++) {
                    least[(MOST_ROOM + 1) * (matter + 1) + room]
                        = leastWith(matter, leastViews(matter, room), room);
                }
            }
        }

        private int leastViews(int matter, int room) {
            int best = 0;
            for (int standing = 1; standing < 16; standing++) {
                boolean fits = Integer.bitCount(standing) <= room;
                if (fits && leastWith(matter, standing, room) < leastWith(matter, best, room)) {
                    best = standing;
                }
            }
            return best;
        }

        private int leastWith(int matter, int standing, int room) {
            int place = placeOf(matter, standing << VIEWS * matter, town.lines);
            return weighed[place] + leastOf(matter, room - Integer.bitCount(standing));
        }

        private int leastOf(int matters, int room) {
            return room < 0 || room > MOST_ROOM ? 0 : least[(MOST_ROOM + 1) * matters + room];
        }

        /** How much all MIND at the ends of the days, or how often a LINE stands then: each day begins from now. */
        int drawnDays(int seed, int days, int strokes, int line) {
            beginWithAll();
            int sum = 0;
            int drawn = seed;
            for (int day = 0; day < days; day++) {
                int lines = town.lines;
                int kept = town.lines;
                for (int stroke = 0; stroke < strokes; stroke++) {
                    drawn = drawn * 1103515245 + 12345;
                    int chalk = 1 << (drawn >>> 8) % LINES;
                    boolean may = (lines & chalk) != 0 || Integer.bitCount(lines) < town.room;
                    lines ^= may ? chalk : 0;
                    kept &= lines;
                }
                sum += line == NO_LINE ? inAll(lines, kept) : bit(lines, line);
            }
            return sum;
        }
    }

    /** BY TURNS: two who write and strike, each as suits him best. */
    private static final class Turns {
        private final Town town;
        private final Thought thought;
        private int times = 0;
        int bestFirst = LINES;

        Turns(Town town, Thought thought) {
            this.town = town;
            this.thought = thought;
        }

        /** What it comes to in the end; the best first change is kept. */
        int play(int one, int other, int n) {
            times = n;
            thought.begin(1 << one, 1 << other);
            return best(n, town.lines, town.lines, thought.inAll(town.lines, town.lines));
        }

        /** The best for whose turn it is, so many changes ahead of the end, on a board that weighs so much. */
        private int best(int left, int lines, int kept, int weight) {
            if (left <= 0) {
                return weight;
            }
            boolean wantsLeast = (times - left) % 2 == 0;
            boolean hasRoom = Integer.bitCount(lines) < town.room;
            int change = NO_LINE;
            int found = 0;
            for (int line = 0; line <= LINES; line++) {
                if (line == LINES || hasRoom || bit(lines, line) == 1) {
                    // nothing is no stroke on any MATTER: it gains 0 wherever it is looked for
                    int then = line == LINES ? lines : lines ^ 1 << line;
                    int matter = line / VIEWS % MATTERS;
                    int gain = thought.onMatter(matter, then, kept & then) - thought.onMatter(matter, lines, kept);
                    int end = best(left - 1, then, kept & then, weight + gain);
                    if (change == NO_LINE || (wantsLeast ? end < found : end > found)) {
                        change = line;
                        found = end;
                    }
                }
            }
            if (left == times) {
                bestFirst = change;
            }
            return found;
        }
    }

    /** What PEOPLE believe, counted and compared. */
    private static final class Votes {
        static final int NOT_EVEN_ALL = -1;

        private final Town town;

        Votes(Town town) {
            this.town = town;
        }

        /** The LINES that somebody believes. */
        int believed() {
            int lines = 0;
            for (int one = 0; one < town.people; one++) {
                for (int matter = 0; matter < MATTERS; matter++) {
                    lines |= 1 << VIEWS * matter + viewIn(town.beliefs[one], matter);
                }
            }
            return lines;
        }

        private int believersOf(int line) {
            int who = 0;
            for (int one = 0; one < town.people; one++) {
                who |= town.holdsView(one, line) ? 1 << one : 0;
            }
            return who;
        }

        private int standingOf(int who) {
            int sum = 0;
            for (int one = 0; one < town.people; one++) {
                sum += bit(who, one) == 1 ? town.standings[one] : 0;
            }
            return sum;
        }

        private boolean haveMoreThanHalf(int who) {
            return 2 * standingOf(who) > standingOf(town.everybody());
        }

        int strikable() {
            int may = 0;
            for (int line = 0; line < LINES; line++) {
                boolean so = town.stands(line) && haveMoreThanHalf(town.everybody() & ~believersOf(line));
                may |= so ? 1 << line : 0;
            }
            return may;
        }

        int fewestToWin(int line) {
            int believers = believersOf(line);
            int others = town.everybody() & ~believers;
            int found = NOT_EVEN_ALL;
            for (int who = 0; who <= believers; who++) {
                boolean fewer = found == NOT_EVEN_ALL || Integer.bitCount(who) < Integer.bitCount(found);
                if (fewer && (who & ~believers) == 0 && haveMoreThanHalf(others | who)) {
                    found = who;
                }
            }
            return found;
        }

        int sameViews(int one, int other) {
            int same = 0;
            for (int matter = 0; matter < MATTERS; matter++) {
                same += apartOn(matter, one, other) == 0 ? 1 : 0;
            }
            return same;
        }

        int apart(int one, int other) {
            int sum = 0;
            for (int matter = 0; matter < MATTERS; matter++) {
                sum += apartOn(matter, one, other);
            }
            return sum;
        }

        private int apartOn(int matter, int one, int other) {
            return Math.abs(viewIn(town.beliefs[one], matter) - viewIn(town.beliefs[other], matter));
        }

        int leastFar(int one) {
            int found = NOT;
            for (int other = 0; other < town.people; other++) {
                if (other != one && (found == NOT || apart(one, other) < apart(one, found))) {
                    found = other;
                }
            }
            return found;
        }

        int mostUnlike() {
            int found = 0;
            for (int matter = 1; matter < MATTERS; matter++) {
                int standing = standingFor(matter, commonest(matter));
                found = standing < standingFor(found, commonest(found)) ? matter : found;
            }
            return found;
        }

        int commonest(int matter) {
            int found = 0;
            for (int view = 1; view < VIEWS; view++) {
                found = standingFor(matter, view) > standingFor(matter, found) ? view : found;
            }
            return found;
        }

        private int standingFor(int matter, int view) {
            return standingOf(believersOf(VIEWS * matter + view));
        }
    }

    /** What is done in deed, what LED tells of it, and AN IMAGE. */
    private static final class Deeds {
        static final int LED = 5;
        private static final int WRITTEN = 0, STRUCK = 1, RUBBED = 2, WON = 3, GONE = 4;

        private final Town town;
        final int[] led = new int[LED];
        boolean hasImage = false;
        private int linesThen = 0;
        private int peopleThen = 0;
        private final int[] wornThen = new int[LINES];
        private final int[] beliefsThen = new int[MOST_PEOPLE];
        private final int[] ledThen = new int[LED];

        Deeds(Town town) {
            this.town = town;
        }

        int doWrite(int line) {
            town.lines |= 1 << line;
            town.worn[line] = 0;
            led[WRITTEN]++;
            return town.standing();
        }

        int doStrike(int line) {
            town.lines &= ~(1 << line);
            led[STRUCK]++;
            return town.standing();
        }

        /** A LINE that goes by rubbing keeps the WORN that it had. */
        int doRub(int line) {
            led[RUBBED]++;
            if (town.worn[line] >= MOST_WORN) {
                town.lines &= ~(1 << line);
                led[GONE]++;
                return MOST_WORN + 1;
            }
            town.worn[line]++;
            return town.worn[line];
        }

        int doWin(int one, int line) {
            int place = 2 * (line / VIEWS);
            town.beliefs[one] = town.beliefs[one] & ~(3 << place) | line % VIEWS << place;
            led[WON]++;
            return town.beliefs[one];
        }

        void keepImage() {
            hasImage = true;
            linesThen = town.lines;
            peopleThen = town.people;
            System.arraycopy(town.worn, 0, wornThen, 0, LINES);
            System.arraycopy(town.beliefs, 0, beliefsThen, 0, MOST_PEOPLE);
            System.arraycopy(led, 0, ledThen, 0, LED);
        }

        void layBack() {
            town.lines = linesThen;
            System.arraycopy(wornThen, 0, town.worn, 0, LINES);
            System.arraycopy(beliefsThen, 0, town.beliefs, 0, peopleThen);
            System.arraycopy(ledThen, 0, led, 0, LED);
        }
    }

    /** CHANGES: those that may be UNDONE, and behind them those that may be DONE AGAIN. */
    private static final class Changes {
        private static final int MOST = 40;

        private final Town town;
        private final int[] whats = new int[MOST];
        private final int[] numbers = new int[MOST];
        private final int[] befores = new int[MOST];
        private final int[] afters = new int[MOST];
        int undoable = 0;
        int kept = 0;

        Changes(Town town) {
            this.town = town;
        }

        void remember(int what, int number, int before, int after) {
            if (undoable >= MOST) {
                forgetOldest();
            }
            whats[undoable] = what;
            numbers[undoable] = number;
            befores[undoable] = before;
            afters[undoable] = after;
            undoable++;
            kept = undoable;
        }

        private void forgetOldest() {
            System.arraycopy(whats, 1, whats, 0, MOST - 1);
            System.arraycopy(numbers, 1, numbers, 0, MOST - 1);
            System.arraycopy(befores, 1, befores, 0, MOST - 1);
            System.arraycopy(afters, 1, afters, 0, MOST - 1);
            undoable = MOST - 1;
        }

        int undoLatest() {
            undoable--;
            town.tell(whats[undoable], numbers[undoable], befores[undoable]);
            return undoable;
        }

        int redoNext() {
            town.tell(whats[undoable], numbers[undoable], afters[undoable]);
            undoable++;
            return kept - undoable;
        }
    }

    /** BODIES of KINDS, and THE TRACE of their ACTS. */
    private static final class Bodies {
        private static final int MOST = 50, MOST_TRACED = 24, MOST_DEEP = 40, KINDS = 8, ACTS = 4;
        private static final int HOLDS = 0, MINDS = 1, TRADES = 2, TELLS = 3;
        /** The KIND above each KIND. */
        private static final int[] ABOVE = {-1, 0, 0, 2, 1, 3, 0, 4};
        /** The bodies of each KIND's own (those of its interfaces, too): holds, minds, trades, tells; 0: none. */
        private static final int[] OWN = {
            1, 10, 11, 2,
            20, 0, 0, 0,
            0, 30, 0, 0,
            0, 41, 40, 0,
            0, 0, 50, 0,
            0, 0, 0, 60,
            70, 0, 0, 0,
            0, 80, 0, 81,
        };

        final int[] kinds = new int[MOST];
        final int[] trail = new int[MOST_TRACED];
        int number = 0;
        int ran = 0;

        static boolean isKind(int kind) {
            return kind >= 0 && kind < KINDS;
        }

        /** Whether a KIND is another one, or under it. */
        static boolean isUnder(int kind, int other) {
            int at = kind;
            for (int i = 0; i < KINDS && isKind(at) && at != other; i++) {
                at = ABOVE[at];
            }
            return at == other;
        }

        boolean isFull() {
            return number >= MOST;
        }

        boolean has(int body) {
            return body >= 0 && body < number;
        }

        int add(int kind) {
            kinds[number] = kind;
            number++;
            return number - 1;
        }

        int traced() {
            return Math.min(ran, MOST_TRACED);
        }

        int perform(int body, int act, int x) {
            ran = 0;
            boolean can = has(body) && act >= 0 && act < ACTS;
            return can ? run(body, kinds[body], act, x, 0) : 0;
        }

        /** Runs an ACT as a KIND has it, or the next KIND above that does. */
        private int run(int body, int kind, int act, int x, int deep) {
            int having = kind;
            for (int i = 0; i < KINDS && isKind(having) && OWN[ACTS * having + act] == 0; i++) {
                having = ABOVE[having];
            }
            if (!isKind(having) || deep >= MOST_DEEP) {
                return 0;
            }
            int own = OWN[ACTS * having + act];
            note(own);
            return ABOVE[having] < 0 ? runRoot(body, own, x, deep + 1)
                : runUnder(body, own, ABOVE[having], x, deep + 1);
        }

        private int runRoot(int body, int own, int x, int deep) {
            int kind = kinds[body];
            switch (own) {
                case 1:
                    return x + body;
                case 10:
                    return run(body, kind, HOLDS, x, deep) * 2;
                case 11:
                    return x ^ body;
                default:
                    return run(body, kind, MINDS, x, deep) - run(body, kind, TRADES, 1, deep);
            }
        }

        private int runUnder(int body, int own, int above, int x, int deep) {
            int kind = kinds[body];
            switch (own) {
                case 20:
                    return run(body, above, HOLDS, x, deep) + 3;
                case 30:
                    return -run(body, above, MINDS, x, deep);
                case 40:
                    return run(body, above, TRADES, x, deep) * 3;
                case 41:
                    return run(body, above, MINDS, x + 1, deep);
                case 50:
                    return run(body, above, TRADES, x, deep) - run(body, kind, HOLDS, 2, deep);
                case 60:
                    return run(body, above, TELLS, x, deep) ^ 5;
                case 70:
                    return run(body, above, HOLDS, x, deep) * 2;
                case 80:
                    return run(body, above, MINDS, x, deep) + run(body, kind, TRADES, 2, deep);
                default:
                    return run(body, above, TELLS, x, deep) - 1;
            }
        }

        private void note(int own) {
            if (ran < MOST_TRACED) {
                trail[ran] = own;
            }
            ran++;
        }
    }

    /** One SHELF: it holds nothing, a BODY, or a ROW. */
    private static final class Shelf {
        static final int BYTES = 0, SHORTS = 1, INTS = 2, LONGS = 3, BOOLEANS = 4, MOST = 60;
        private static final int NO_ROW = -1;

        final long[] cells = new long[MOST];
        int body = NOTHING;
        int sort = NO_ROW;
        int length = 0;

        void holdBody(int number) {
            body = number;
            sort = NO_ROW;
            length = 0;
        }

        void holdRow(int newSort, int n) {
            body = NOTHING;
            sort = newSort;
            length = n;
            Arrays.fill(cells, 0L);
        }

        boolean isRow() {
            return sort != NO_ROW;
        }

        boolean isRowOf(int wanted) {
            return isRow() && sort == wanted;
        }

        boolean isBare() {
            return body == NOTHING && !isRow();
        }

        /** Whether n places from one on are there. */
        boolean hasPlaces(int from, int n) {
            return from >= 0 && n >= 0 && from <= length && n <= length - from;
        }

        int refusesAsRowOf(int wanted) {
            if (isBare()) {
                return NOTHING_THERE;
            }
            return isRowOf(wanted) ? 0 : OTHER_KIND;
        }

        int refusesPlace(int i) {
            if (isBare()) {
                return NOTHING_THERE;
            }
            if (!isRow()) {
                return OTHER_KIND;
            }
            return hasPlaces(i, 1) ? 0 : NO_PLACE;
        }

        void lay(int i, long v) {
            cells[i] = lowestBits(v);
        }

        private long lowestBits(long v) {
            switch (sort) {
                case BYTES:
                    return (byte) v;
                case SHORTS:
                    return (short) v;
                case INTS:
                    return (int) v;
                case LONGS:
                    return v;
                default:
                    return v != 0 ? 1 : 0;
            }
        }
    }

    /** A BOOK: a ROW of bytes, by twos a LINE and whether one would have it struck. */
    private static final class Book {
        private Book() {
        }

        private static int twos(Shelf row) {
            return (row.length + 1) / 2;
        }

        private static int lineOf(Shelf row, int two) {
            int line = (int) row.cells[2 * two];
            return isLine(line) ? line : NO_LINE;
        }

        /** Whether a two is so for one with this VIEW of its MATTER. */
        private static boolean isSo(Shelf row, int two, int view) {
            int line = lineOf(row, two);
            if (line == NO_LINE || !row.hasPlaces(2 * two, 2)) {
                return false;
            }
            return row.cells[2 * two + 1] == (line % VIEWS == view ? 0 : 1);
        }

        static int firstWrong(Shelf row, int belief) {
            for (int two = 0; two < twos(row); two++) {
                int line = lineOf(row, two);
                if (line == NO_LINE || !isSo(row, two, viewIn(belief, line / VIEWS))) {
                    return two;
                }
            }
            return NOT;
        }

        /** The VIEWS (bits) of a MATTER that make all that the BOOK has of it so. */
        static int viewsFor(Shelf row, int matter) {
            int views = 0;
            for (int view = 0; view < VIEWS; view++) {
                views |= fits(row, matter, view) ? 1 << view : 0;
            }
            return views;
        }

        private static boolean fits(Shelf row, int matter, int view) {
            boolean so = true;
            for (int two = 0; two < twos(row); two++) {
                int line = lineOf(row, two);
                boolean ofMatter = line != NO_LINE && line / VIEWS == matter;
                so = so && (!ofMatter || isSo(row, two, view));
            }
            return so;
        }

        /** MATTERS are free of one another: the BELIEFS are all ways to take a fitting VIEW of each. */
        static int codesFor(Shelf row) {
            int codes = 1;
            for (int two = 0; two < twos(row); two++) {
                codes = lineOf(row, two) == NO_LINE ? 0 : codes;
            }
            for (int matter = 0; matter < MATTERS; matter++) {
                codes *= Integer.bitCount(viewsFor(row, matter));
            }
            return codes;
        }
    }
}
