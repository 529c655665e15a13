/** Picnic in the place of somebody: a slope told in letters, its people, and the hollow where one would sit. */
public final class PicnicOfSomebody {
    private static final int CELLS = 25;
    private static final int SIDE = 5;
    private static final int MOST_DEPTH = 99;
    private static final int MOST_PEOPLE = 8;
    private static final int MOST_FIGURE = 9;
    private static final int MOST_BELIEF = 9;
    private static final int BELIEVES_FROM = 5;
    private static final int BESIDE_STEPS = 2;
    private static final int MOST_STEPS = 2 * (SIDE - 1);
    private static final int MOST_YEAR = 999;
    private static final int MOST_YEARS = 60;
    private static final int MOST_SEARCH_YEARS = 20;
    private static final int MOST_WIND_YEARS = 7;
    private static final int LEAST_ODDS = 2;
    private static final int MOST_ODDS = 20;
    private static final int MOST_LOTS = 20;
    private static final int LOT_YEARS = 10;
    private static final int MOST_LETTERS = 96;
    private static final int MOST_LETTER = 255;
    private static final int MOST_ROW = 16;
    private static final int MOST_TOLD = 99;
    private static final int WITHOUT_SIGN = 0x7fffffff;

    private static final int KINDS = 6;
    private static final int GUEST = 0;
    private static final int FRIEND = 1;
    private static final int CHILD = 2;
    private static final int DOUBTER = 3;
    private static final int OLD = 4;
    private static final int DOG = 5;

    private static final int NOBODY = -1;
    private static final int OTHER = -2;
    private static final int STATE = -3;
    private static final int BELOW = -4;
    private static final int ROOM = -6;
    private static final int REFUSALS = 7;
    private static final int NONE = -9;
    private static final int STRANGER_REFUSED = 1000000000;
    private static final long LONG_REFUSED = 4000000000000000000L;

    private final Slope now = new Slope();
    private final Slope taken = new Slope();
    private final Slope thought = new Slope();
    private final Mind mind = new Mind(now, thought);
    private final Company company = new Company(now);
    private final Text text = new Text(now, thought);
    private final Row told = new Row();
    private final int[] refusals = new int[REFUSALS];
    private boolean isTaken = false;

    public PicnicOfSomebody() {
    }

    public int letter(int c) {
        int no = range(c, 0, MOST_LETTER);
        if (no == 0 && text.isFull()) {
            no = ROOM;
        }
        return no != 0 ? refuse(no) : text.append(c);
    }

    public int slope() {
        int answer = text.become();
        text.empty();
        return answer;
    }

    public int depth(int cell) {
        int no = noCell(cell);
        return no != 0 ? refuse(no) : now.depths[cell];
    }

    public int person(int person, int what) {
        int no = firstOf(noPerson(person), other(what, 7), 0);
        if (no != 0) {
            return refuse(no);
        }
        switch (what) {
            case 0:
                return now.kinds[person];
            case 1:
                return now.figures[person];
            case 2:
                return now.cells[person];
            case 3:
                return now.beliefs[person];
            case 4:
                return Integer.bitCount(now.besideBits(person));
            case 5:
                return Integer.bitCount(now.besideBits(person) & now.believerBits());
            default:
                return now.nextBelief(person, now.hollow());
        }
    }

    public int place() {
        return now.hollow();
    }

    public int digs(int cell, int v) {
        int no = firstOf(noCell(cell), range(v, 0, MOST_DEPTH), 0);
        if (no != 0) {
            return refuse(no);
        }
        int was = now.depths[cell];
        now.depths[cell] = v;
        return was;
    }

    public int believes(int person, int v) {
        int no = firstOf(noPerson(person), range(v, 0, MOST_BELIEF), 0);
        if (no != 0) {
            return refuse(no);
        }
        int was = now.beliefs[person];
        now.beliefs[person] = v;
        return was;
    }

    public int sits(int person, int cell) {
        int no = firstOf(noPerson(person), noCell(cell), 0);
        if (no != 0) {
            return refuse(no);
        }
        int was = now.cells[person];
        now.cells[person] = cell;
        return was;
    }

    public int turn(int person, int kind, int figure) {
        int no = firstOf(noPerson(person), other(kind, KINDS), range(figure, 0, MOST_FIGURE));
        if (no != 0) {
            return refuse(no);
        }
        int was = 10 * now.kinds[person] + now.figures[person];
        now.kinds[person] = kind;
        now.figures[person] = figure;
        return was;
    }

    public int years(int n) {
        int no = range(n, 1, MOST_YEARS);
        if (no == 0 && now.year + n > MOST_YEAR) {
            no = ROOM;
        }
        return no != 0 ? refuse(no) : now.passYears(n);
    }

    public int behind(int person, int n, int what) {
        int no = firstOf(noPerson(person), range(n, 0, MOST_YEARS), other(what, 2));
        if (no != 0) {
            return refuse(no);
        }
        mind.think().passYears(n);
        return what == 0 ? thought.beliefs[person] : thought.cells[person];
    }

    public int then(int n, int what) {
        int no = firstOf(range(n, 0, MOST_YEARS), other(what, 2), 0);
        if (no != 0) {
            return refuse(no);
        }
        int believing = mind.think().passYears(n);
        return what == 0 ? thought.hollow() : believing;
    }

    public int depthThen(int cell, int n) {
        int no = firstOf(noCell(cell), range(n, 0, MOST_YEARS), 0);
        if (no != 0) {
            return refuse(no);
        }
        mind.think().passYears(n);
        return thought.depths[cell];
    }

    public int first(int what) {
        switch (what) {
            case 0:
                return mind.yearsTillAll();
            case 1:
                return mind.yearsTillNone();
            case 2:
                return mind.yearsTillSettled();
            case 3:
                return mind.yearsTillElsewhere();
            default:
                return refuse(OTHER);
        }
    }

    public int makes(int n) {
        int no = range(n, 0, MOST_SEARCH_YEARS);
        return no != 0 ? refuse(no) : mind.fewestMakers(n);
    }

    public int leaves(int n) {
        int no = range(n, 0, MOST_SEARCH_YEARS);
        return no != 0 ? refuse(no) : mind.fewestLeavers(n);
    }

    public int ask(int n) {
        int no = range(n, 0, MOST_YEARS);
        return no != 0 ? refuse(no) : mind.whomToAsk(n);
    }

    public int sit(int person, int n, int what) {
        int no = firstOf(noPerson(person), range(n, 0, MOST_SEARCH_YEARS), other(what, 2));
        if (no != 0) {
            return refuse(no);
        }
        int cell = mind.bestCell(person, n);
        return what == 0 ? cell : mind.beliefFrom(cell, person, n);
    }

    public int doubt(int n) {
        int no = range(n, 0, MOST_YEARS);
        return no != 0 ? refuse(no) : mind.worstDoubter(n);
    }

    public int stranger(int n) {
        int no = range(n, 0, MOST_YEARS);
        return no != 0 ? STRANGER_REFUSED - refuse(no) : mind.moreByStranger(n);
    }

    public int nearest() {
        return company.nearestTo(now.hollow());
    }

    public int passed(int n) {
        int no = range(n, 0, MOST_YEARS);
        return no != 0 ? refuse(no) : mind.thingsPassed(n);
    }

    public int heard(int person) {
        int no = noPerson(person);
        return no != 0 ? refuse(no) : company.chainOf(person);
    }

    public int groups(int what) {
        int no = other(what, 2);
        if (no != 0) {
            return refuse(no);
        }
        return what == 0 ? company.chains() : company.mostInAChain();
    }

    public int middle(int what) {
        int no = other(what, 2);
        if (no != 0) {
            return refuse(no);
        }
        int cell = company.middleCell();
        return what == 0 ? cell : company.stepsFrom(cell);
    }

    public long wind(int n, int t, int part) {
        int no = 0;
        if (n < 0 || t < LEAST_ODDS) {
            no = BELOW;
        } else if (n > MOST_WIND_YEARS || t > MOST_ODDS) {
            no = ROOM;
        } else {
            no = other(part, 2);
        }
        if (no != 0) {
            return LONG_REFUSED - refuse(no);
        }
        return partOf(mind.windsToAll(n, t), Mind.power(t, n), part);
    }

    public long mean(int part) {
        int no = other(part, 2);
        return no != 0 ? LONG_REFUSED - refuse(no) : partOf(now.allBelief(), now.people, part);
    }

    public int two(int a, int b, int n) {
        int no = firstOf(noPerson(a), noPerson(b), a == b ? NOBODY : 0);
        if (no == 0) {
            no = range(n, 0, MOST_YEARS);
        }
        return no != 0 ? refuse(no) : mind.firstStillPair(a, b, n);
    }

    public int whatIs(int person, int what) {
        int no = firstOf(noPerson(person), other(what, 2), 0);
        if (no != 0) {
            return refuse(no);
        }
        return what == 0 ? mind.kindsBy(told, person) : mind.figuresBy(told, person);
    }

    public int who() {
        return mind.missingBy(told);
    }

    public int row(int v) {
        int no = range(v, 0, MOST_TOLD);
        if (no == 0 && told.isFull()) {
            no = ROOM;
        }
        return no != 0 ? refuse(no) : told.append(v);
    }

    public int judge() {
        int answer = mind.firstWrongPlace(told);
        told.empty();
        return answer;
    }

    public int clear() {
        return told.empty();
    }

    public int lots(int n, int z, int what) {
        int no = firstOf(range(n, 1, MOST_LOTS), other(what, 2), 0);
        return no != 0 ? refuse(no) : mind.allByLot(n, z, what);
    }

    public int image() {
        taken.take(now);
        isTaken = true;
        return now.year;
    }

    public int on() {
        if (!isTaken) {
            return refuse(STATE);
        }
        now.take(taken);
        return now.year;
    }

    public int count(int what) {
        if (what >= 11 && what <= 16) {
            return refusals[what - 10];
        }
        switch (what) {
            case 0:
                return now.people;
            case 1:
                return now.year;
            case 2:
                return now.believerBits();
            case 3:
                return now.allBelief();
            case 4:
                return now.allDepth();
            case 5:
                return now.hollow();
            case 6:
                return told.size;
            case 7:
                return text.size;
            default:
                return NONE;
        }
    }

    private int refuse(int no) {
        int number = -no;
        if (number > 0 && number < REFUSALS) {
            refusals[number]++;
        }
        return no;
    }

    private int noPerson(int person) {
        return person < 0 || person >= now.people ? NOBODY : 0;
    }

    private static int noCell(int cell) {
        return cell < 0 || cell >= CELLS ? NOBODY : 0;
    }

    private static int other(int what, int choices) {
        return what < 0 || what >= choices ? OTHER : 0;
    }

    private static int range(int v, int least, int most) {
        if (v < least) {
            return BELOW;
        }
        return v > most ? ROOM : 0;
    }

    private static int firstOf(int one, int next, int last) {
        if (one != 0) {
            return one;
        }
        return next != 0 ? next : last;
    }

    private static long partOf(long above, long below, int part) {
        if (above == 0) {
            return part;
        }
        long shared = sharedDivisor(above, below);
        if (shared == 0) {
            return 0;
        }
        return part == 0 ? above / shared : below / shared;
    }

    private static long sharedDivisor(long above, long below) {
        long a = above;
        long b = below;
        // Two rounds at least halve the rest, so a long is used up before these are.
        for (int round = 0; round < 200 && b != 0; round++) {
            long rest = a % b;
            a = b;
            b = rest;
        }
        return a;
    }

    private static int apart(int one, int other) {
        int rows = one / SIDE - other / SIDE;
        int columns = one % SIDE - other % SIDE;
        return (rows < 0 ? -rows : rows) + (columns < 0 ? -columns : columns);
    }

    private static boolean isIn(int bits, int person) {
        return (bits >> person & 1) != 0;
    }

    /** All that an image holds: how deep each CELL is, who sits where and believes what, the YEAR. */
    private static final class Slope {
        final int[] depths = new int[CELLS];
        final int[] kinds = new int[MOST_PEOPLE];
        final int[] figures = new int[MOST_PEOPLE];
        final int[] cells = new int[MOST_PEOPLE];
        final int[] beliefs = new int[MOST_PEOPLE];
        private final int[] nexts = new int[MOST_PEOPLE];
        int people = 0;
        int year = 0;

        Slope() {
        }

        void take(Slope from) {
            System.arraycopy(from.depths, 0, depths, 0, CELLS);
            System.arraycopy(from.kinds, 0, kinds, 0, MOST_PEOPLE);
            System.arraycopy(from.figures, 0, figures, 0, MOST_PEOPLE);
            System.arraycopy(from.cells, 0, cells, 0, MOST_PEOPLE);
            System.arraycopy(from.beliefs, 0, beliefs, 0, MOST_PEOPLE);
            people = from.people;
            year = from.year;
        }

        boolean isFull() {
            return people >= MOST_PEOPLE;
        }

        void join(int kind, int figure, int cell, int belief) {
            if (!isFull()) {
                kinds[people] = kind;
                figures[people] = figure;
                cells[people] = cell;
                beliefs[people] = belief;
                people++;
            }
        }

        void dropAll(int bits) {
            int kept = 0;
            for (int i = 0; i < people; i++) {
                if (!isIn(bits, i)) {
                    kinds[kept] = kinds[i];
                    figures[kept] = figures[i];
                    cells[kept] = cells[i];
                    beliefs[kept] = beliefs[i];
                    kept++;
                }
            }
            people = kept;
        }

        /** HERE. */
        int hollow() {
            int deepest = 0;
            for (int cell = 1; cell < CELLS; cell++) {
                if (depths[cell] > depths[deepest]) {
                    deepest = cell;
                }
            }
            return deepest;
        }

        int besideBits(int person) {
            int bits = 0;
            for (int i = 0; i < people; i++) {
                if (i != person && apart(cells[i], cells[person]) <= BESIDE_STEPS) {
                    bits |= 1 << i;
                }
            }
            return bits;
        }

        boolean isBeliever(int person) {
            return beliefs[person] >= BELIEVES_FROM;
        }

        int believerBits() {
            int bits = 0;
            for (int i = 0; i < people; i++) {
                if (isBeliever(i)) {
                    bits |= 1 << i;
                }
            }
            return bits;
        }

        int believers() {
            return Integer.bitCount(believerBits());
        }

        int allBelief() {
            int sum = 0;
            for (int i = 0; i < people; i++) {
                sum += beliefs[i];
            }
            return sum;
        }

        int allDepth() {
            int sum = 0;
            for (int cell = 0; cell < CELLS; cell++) {
                sum += depths[cell];
            }
            return sum;
        }

        int nextBelief(int person, int here) {
            int own = beliefs[person];
            int cell = cells[person];
            int lean = 0;
            int greatest = -1;
            for (int i = 0; i < people; i++) {
                if (i != person && apart(cells[i], cell) <= BESIDE_STEPS) {
                    lean += isBeliever(i) ? 1 : -1;
                    greatest = Math.max(greatest, beliefs[i]);
                }
            }
            int guest = own + Integer.compare(lean, 0);
            int friend = apart(cell, here) <= figures[person] ? guest + 1 : guest;
            int child = greatest < 0 ? own : greatest;
            // Bounded at the end alone: a DOUBTER at 9 among BELIEVERS is 1 more and 1 less, and so stays at 9.
            return Math.max(0, Math.min(MOST_BELIEF, nextOfKind(person, guest, friend, child)));
        }

        private int nextOfKind(int person, int guest, int friend, int child) {
            switch (kinds[person]) {
                case FRIEND:
                    return friend;
                case CHILD:
                    return child;
                case DOUBTER:
                    return guest - 1;
                case OLD:
                    return Math.max(friend, beliefs[person]);
                case DOG:
                    return child + 1;
                default:
                    return guest;
            }
        }

        /** Lets n YEARS go by; tells how many BELIEVE then. */
        int passYears(int n) {
            for (int i = 0; i < n; i++) {
                passYear(false);
            }
            return believers();
        }

        /** Lets a YEAR go by, in wind or not; tells whether a BELIEF or a CELL of anybody changed. */
        boolean passYear(boolean inWind) {
            int here = hollow();
            for (int i = 0; i < people; i++) {
                nexts[i] = nextBelief(i, here);
            }
            deepen(here, inWind ? 0 : believersAround(here));
            year++;
            boolean changed = false;
            for (int i = 0; i < people; i++) {
                changed |= nexts[i] != beliefs[i];
                beliefs[i] = nexts[i];
                if (isBeliever(i) && cells[i] != here) {
                    cells[i] = nearer(cells[i], here);
                    changed = true;
                }
            }
            return changed;
        }

        private int believersAround(int here) {
            int found = 0;
            for (int i = 0; i < people; i++) {
                if (isBeliever(i) && apart(cells[i], here) <= BESIDE_STEPS) {
                    found++;
                }
            }
            return found;
        }

        private void deepen(int here, int more) {
            for (int cell = 0; cell < CELLS; cell++) {
                int change = cell == here ? more : -1;
                depths[cell] = Math.max(0, Math.min(MOST_DEPTH, depths[cell] + change));
            }
        }

        private static int nearer(int cell, int here) {
            int rows = Integer.compare(here / SIDE, cell / SIDE);
            return rows != 0 ? cell + SIDE * rows : cell + Integer.compare(here % SIDE, cell % SIDE);
        }
    }

    /** Who is together, as things stand now. */
    private static final class Company {
        private final Slope now;

        Company(Slope now) {
            this.now = now;
        }

        int nearestTo(int here) {
            int nearest = NONE;
            int fewest = MOST_STEPS + 1;
            for (int i = 0; i < now.people; i++) {
                int steps = apart(now.cells[i], here);
                if (steps < fewest) {
                    fewest = steps;
                    nearest = i;
                }
            }
            return nearest;
        }

        int chainOf(int person) {
            int bits = 1 << person;
            // A round that brings nobody new is the last with any effect, so as many rounds as people are enough.
            for (int round = 0; round < now.people; round++) {
                for (int i = 0; i < now.people; i++) {
                    if (isIn(bits, i)) {
                        bits |= now.besideBits(i);
                    }
                }
            }
            return bits;
        }

        int chains() {
            int found = 0;
            int seen = 0;
            for (int i = 0; i < now.people; i++) {
                if (!isIn(seen, i)) {
                    seen |= chainOf(i);
                    found++;
                }
            }
            return found;
        }

        int mostInAChain() {
            int most = 0;
            for (int i = 0; i < now.people; i++) {
                most = Math.max(most, Integer.bitCount(chainOf(i)));
            }
            return most;
        }

        int middleCell() {
            int middle = 0;
            int fewest = stepsFrom(0);
            for (int cell = 1; cell < CELLS; cell++) {
                int steps = stepsFrom(cell);
                if (steps < fewest) {
                    fewest = steps;
                    middle = cell;
                }
            }
            return middle;
        }

        int stepsFrom(int cell) {
            int sum = 0;
            for (int i = 0; i < now.people; i++) {
                sum += apart(now.cells[i], cell);
            }
            return sum;
        }
    }

    /** What would be: every question is tried out on the one Slope in thought, so that none makes a new object. */
    private static final class Mind {
        private final Slope now;
        private final Slope thought;

        Mind(Slope now, Slope thought) {
            this.now = now;
            this.thought = thought;
        }

        /** Things in thought as they stand now. */
        Slope think() {
            thought.take(now);
            return thought;
        }

        private boolean allBelieve() {
            return thought.believers() == thought.people;
        }

        int yearsTillAll() {
            think();
            for (int n = 0; n <= MOST_YEARS; n++) {
                if (allBelieve()) {
                    return n;
                }
                thought.passYear(false);
            }
            return NONE;
        }

        int yearsTillNone() {
            think();
            for (int n = 0; n <= MOST_YEARS; n++) {
                if (thought.believers() == 0) {
                    return n;
                }
                thought.passYear(false);
            }
            return NONE;
        }

        int yearsTillSettled() {
            think();
            for (int n = 0; n <= MOST_YEARS; n++) {
                if (!thought.passYear(false)) {
                    return n;
                }
            }
            return NONE;
        }

        int yearsTillElsewhere() {
            int here = think().hollow();
            for (int n = 1; n <= MOST_YEARS; n++) {
                thought.passYear(false);
                if (thought.hollow() != here) {
                    return n;
                }
            }
            return NONE;
        }

        int fewestMakers(int n) {
            int best = NONE;
            int fewest = MOST_PEOPLE + 1;
            for (int bits = 0; bits < 1 << now.people; bits++) {
                int size = Integer.bitCount(bits);
                if (size < fewest && isMadeBy(bits, n)) {
                    fewest = size;
                    best = bits;
                }
            }
            return best;
        }

        private boolean isMadeBy(int bits, int n) {
            think();
            for (int i = 0; i < thought.people; i++) {
                if (isIn(bits, i)) {
                    thought.beliefs[i] = MOST_BELIEF;
                }
            }
            thought.passYears(n);
            return allBelieve();
        }

        int fewestLeavers(int n) {
            int best = NONE;
            int fewest = MOST_PEOPLE + 1;
            for (int bits = 0; bits < 1 << now.people; bits++) {
                int size = Integer.bitCount(bits);
                if (size < fewest && believersWithout(bits, n) == 0) {
                    fewest = size;
                    best = bits;
                }
            }
            return best;
        }

        private int believersWithout(int bits, int n) {
            think().dropAll(bits);
            return thought.passYears(n);
        }

        int whomToAsk(int n) {
            int best = NONE;
            int most = think().passYears(n);
            for (int i = 0; i < now.people; i++) {
                think().beliefs[i] = MOST_BELIEF;
                int believing = thought.passYears(n);
                if (believing > most) {
                    most = believing;
                    best = i;
                }
            }
            return best;
        }

        int bestCell(int person, int n) {
            int best = 0;
            int most = -1;
            for (int cell = 0; cell < CELLS; cell++) {
                int belief = beliefFrom(cell, person, n);
                if (belief > most) {
                    most = belief;
                    best = cell;
                }
            }
            return best;
        }

        int beliefFrom(int cell, int person, int n) {
            think().cells[person] = cell;
            thought.passYears(n);
            return thought.beliefs[person];
        }

        int worstDoubter(int n) {
            int worst = NONE;
            int fewest = MOST_PEOPLE + 1;
            for (int i = 0; i < now.people; i++) {
                think().kinds[i] = DOUBTER;
                int believing = thought.passYears(n);
                if (believing < fewest) {
                    fewest = believing;
                    worst = i;
                }
            }
            return worst;
        }

        int moreByStranger(int n) {
            if (now.isFull()) {
                return NONE;
            }
            int without = think().passYears(n);
            think().join(GUEST, 0, CELLS - 1, MOST_BELIEF);
            int with = thought.passYears(n);
            int himself = thought.isBeliever(now.people) ? 1 : 0;
            return with - himself - without;
        }

        int thingsPassed(int n) {
            think();
            int things = 0;
            for (int year = 0; year < n; year++) {
                things += figuresOfBelievers();
                thought.passYear(false);
            }
            return things;
        }

        private int figuresOfBelievers() {
            int sum = 0;
            for (int i = 0; i < thought.people; i++) {
                if (thought.isBeliever(i)) {
                    sum += thought.figures[i];
                }
            }
            return sum;
        }

        /** Of t to the power n equal ways of the wind, those behind which all BELIEVE. */
        long windsToAll(int n, int t) {
            long ways = 0;
            for (int windy = 0; windy < 1 << n; windy++) {
                if (allBelieveIn(windy, n)) {
                    ways += power(t - 1, n - Integer.bitCount(windy));
                }
            }
            return ways;
        }

        private boolean allBelieveIn(int windy, int n) {
            think();
            for (int year = 0; year < n; year++) {
                thought.passYear(isIn(windy, year));
            }
            return allBelieve();
        }

        static long power(int base, int exponent) {
            long product = 1;
            for (int i = 0; i < exponent; i++) {
                product *= base;
            }
            return product;
        }

        int firstStillPair(int a, int b, int n) {
            for (int one = 0; one <= 1; one++) {
                for (int other = 0; other <= 1; other++) {
                    int believing = believersByPair(a, one, b, other, n);
                    boolean oneStays = believing >= believersByPair(a, 1 - one, b, other, n);
                    boolean otherStays = believing <= believersByPair(a, one, b, 1 - other, n);
                    if (oneStays && otherStays) {
                        return 10 * one + other;
                    }
                }
            }
            return NONE;
        }

        private int believersByPair(int a, int one, int b, int other, int n) {
            think();
            thought.beliefs[a] = MOST_BELIEF * one;
            thought.beliefs[b] = MOST_BELIEF * other;
            return thought.passYears(n);
        }

        int kindsBy(Row told, int person) {
            int bits = 0;
            for (int kind = 0; kind < KINDS; kind++) {
                think().kinds[person] = kind;
                if (isBeliefOf(person, told)) {
                    bits |= 1 << kind;
                }
            }
            return bits;
        }

        int figuresBy(Row told, int person) {
            int bits = 0;
            for (int figure = 0; figure <= MOST_FIGURE; figure++) {
                think().figures[person] = figure;
                if (isBeliefOf(person, told)) {
                    bits |= 1 << figure;
                }
            }
            return bits;
        }

        private boolean isBeliefOf(int person, Row told) {
            for (int year = 0; year < told.size; year++) {
                if (told.numbers[year] != thought.beliefs[person]) {
                    return false;
                }
                thought.passYear(false);
            }
            return true;
        }

        int missingBy(Row told) {
            int bits = 0;
            for (int i = 0; i < now.people; i++) {
                think().dropAll(1 << i);
                if (isHowManyBelieve(told)) {
                    bits |= 1 << i;
                }
            }
            return bits;
        }

        private boolean isHowManyBelieve(Row told) {
            for (int year = 0; year < told.size; year++) {
                if (told.numbers[year] != thought.believers()) {
                    return false;
                }
                thought.passYear(false);
            }
            return true;
        }

        int firstWrongPlace(Row told) {
            think();
            for (int year = 0; year < told.size; year++) {
                if (told.numbers[year] != thought.hollow()) {
                    return year;
                }
                thought.passYear(false);
            }
            return NONE;
        }

        int allByLot(int n, int seed, int what) {
            int sum = 0;
            int z = seed;
            for (int lot = 0; lot < n; lot++) {
                think();
                for (int i = 0; i < thought.people; i++) {
                    z = stirred(z);
                    thought.cells[i] = drawn(z, CELLS);
                    z = stirred(z);
                    thought.beliefs[i] = drawn(z, MOST_BELIEF + 1);
                }
                int believing = thought.passYears(LOT_YEARS);
                sum += what == 0 ? believing : thought.allBelief();
            }
            return sum;
        }

        private static int stirred(int z) {
            return z * 1664525 + 1013904223;
        }

        private static int drawn(int z, int below) {
            int number = (z & WITHOUT_SIGN) / 256;
            return below > 0 ? number % below : 0;
        }
    }

    /** The letters that have come, and what they tell. */
    private static final class Text {
        private final int[] letters = new int[MOST_LETTERS];
        private final Slope now;
        private final Slope draft;
        int size = 0;

        Text(Slope now, Slope draft) {
            this.now = now;
            this.draft = draft;
        }

        boolean isFull() {
            return size >= MOST_LETTERS;
        }

        int append(int c) {
            if (!isFull()) {
                letters[size] = c;
                size++;
            }
            return size;
        }

        void empty() {
            size = 0;
        }

        /** Does all that the letters tell, or nothing of it; tells how many STATEMENTS there are, or the FAULT. */
        int become() {
            int wrong = placeOfWrongForm();
            if (wrong >= 0) {
                return -1000 - wrong;
            }
            draft.take(now);
            int statements = 0;
            int at = 0;
            while (at < size) {
                if (!comes(at)) {
                    return -2000 - at;
                }
                statements++;
                // The form is right by now, so no length is 0; the 1 lets the end of the loop be seen from here.
                at += Math.max(1, lengthOf(letters[at]));
            }
            now.take(draft);
            return statements;
        }

        private int placeOfWrongForm() {
            int at = 0;
            do {
                int length = at < size ? lengthOf(letters[at]) : 0;
                if (length == 0) {
                    return at;
                }
                for (int i = 1; i < length; i++) {
                    if (at + i >= size || !fits(letters[at], i, letters[at + i])) {
                        return at + i;
                    }
                }
                at += length;
            } while (at < size);
            return -1;
        }

        private static int lengthOf(int head) {
            switch (head) {
                case 'p':
                    return 7;
                case 'h':
                    return 6;
                case 'a':
                    return 5;
                case 'b':
                case 'y':
                    return 4;
                default:
                    return 0;
            }
        }

        private static boolean fits(int head, int offset, int c) {
            if (offset == lengthOf(head) - 1) {
                return c == ';';
            }
            if (head == 'p' && offset == 1) {
                return kindOf(c) >= 0;
            }
            return c >= '0' && c <= '9';
        }

        private static int kindOf(int c) {
            switch (c) {
                case 'g':
                    return GUEST;
                case 'f':
                    return FRIEND;
                case 'c':
                    return CHILD;
                case 's':
                    return DOUBTER;
                case 'o':
                    return OLD;
                case 'd':
                    return DOG;
                default:
                    return -1;
            }
        }

        private int letterAt(int at) {
            return at >= 0 && at < size ? letters[at] : '0';
        }

        private int digit(int at) {
            return letterAt(at) - '0';
        }

        private int twoDigits(int at) {
            return 10 * digit(at) + digit(at + 1);
        }

        /** Does the STATEMENT that begins at a place to the draft, if it is as it must be; tells whether it is. */
        private boolean comes(int at) {
            switch (letterAt(at)) {
                case 'p':
                    return personComes(kindOf(letterAt(at + 1)), digit(at + 2), twoDigits(at + 3), digit(at + 5));
                case 'h':
                    return depthComes(twoDigits(at + 1), twoDigits(at + 3));
                case 'b':
                    return beliefComes(digit(at + 1), digit(at + 2));
                case 'a':
                    return seatComes(digit(at + 1), twoDigits(at + 2));
                default:
                    break;
            }
            int n = twoDigits(at + 1);
            if (n < 1 || n > MOST_YEARS || draft.year + n > MOST_YEAR) {
                return false;
            }
            draft.passYears(n);
            return true;
        }

        private boolean personComes(int kind, int figure, int cell, int belief) {
            if (draft.isFull() || cell >= CELLS) {
                return false;
            }
            draft.join(kind, figure, cell, belief);
            return true;
        }

        private boolean depthComes(int cell, int v) {
            if (cell < 0 || cell >= CELLS) {
                return false;
            }
            draft.depths[cell] = v;
            return true;
        }

        private boolean beliefComes(int person, int v) {
            if (person < 0 || person >= draft.people) {
                return false;
            }
            draft.beliefs[person] = v;
            return true;
        }

        private boolean seatComes(int person, int cell) {
            if (person < 0 || person >= draft.people || cell >= CELLS) {
                return false;
            }
            draft.cells[person] = cell;
            return true;
        }
    }

    /** The numbers of the ROW. */
    private static final class Row {
        final int[] numbers = new int[MOST_ROW];
        int size = 0;

        Row() {
        }

        boolean isFull() {
            return size >= MOST_ROW;
        }

        int append(int v) {
            if (!isFull()) {
                numbers[size] = v;
                size++;
            }
            return size;
        }

        /** Tells how many there were. */
        int empty() {
            int had = size;
            size = 0;
            return had;
        }
    }
}
