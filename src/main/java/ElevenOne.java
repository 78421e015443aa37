/** A room of jurors who talk till as many as a rule needs say one; the promises stand in DOC.md. */
public final class ElevenOne {
    private static final int REFUSED = -1;
    private static final int NO_ROOM = -2;
    private static final int NOT_NOW = -3;
    private static final int NONE = -4;
    private static final int NOTHING_HELD = -11;
    private static final int OTHER_KIND = -12;
    private static final int NO_PLACE = -13;
    private static final int BELOW_ZERO = -14;
    private static final int NO_FAILURE = -15;
    private static final int LAW_FAULT = -100;
    private static final int REFUSED_FAR = -1000000001;

    private static final int MOST = 12;
    private static final int MOST_LAWS = 6;
    private static final int MOST_SHELVES = 8;
    private static final int LONGEST_ROW = 100;
    private static final int LONGEST_TALK = 3000;
    private static final int MOST_LEFT_OUT = 3;

    private static final int NEEDED = 0;
    private static final int LEADER = 1;
    private static final int HANDS = 2;
    private static final int LIMIT = 3;
    private static final int[] RULE_LEAST = {1, 0, 0, 1};
    private static final int[] RULE_MOST = {12, 11, 1, 3000};

    private static final int NO = 0;
    private static final int YES = 1;
    private static final int HUNG = 2;

    private final Room now = new Room();
    // Every RUN is a TALK in this room, so that no call makes rooms of its own.
    private final Room mind = new Room();
    private final Room pictured = new Room();
    private boolean isPictured;
    private final Shelf[] shelves = new Shelf[MOST_SHELVES];

    public ElevenOne() {
        for (int d = 0; d < shelves.length; d++) {
            shelves[d] = new Shelf();
        }
    }

    // ---- things, jurors

    public int thing(int speaks) {
        if (speaks < -20 || speaks > 20) {
            return REFUSED;
        }
        if (now.things >= MOST) {
            return NO_ROOM;
        }
        store(now.speaks, now.things, speaks);
        now.things++;
        return now.things - 1;
    }

    public int juror(int told, int line, int patience, int law) {
        if (!isToldRight(told) || line < -99 || line > 99 || patience < 0 || patience > 999) {
            return REFUSED;
        }
        if (law < -1 || law >= now.laws) {
            return REFUSED;
        }
        if (now.jurors >= MOST) {
            return NO_ROOM;
        }
        now.sit(newTurn(now.jurors, told, line, patience, law), 0);
        now.begun = false;
        now.standAsTold();
        return now.jurors - 1;
    }

    public int holds(int juror, int things) {
        if (!now.isSeat(juror) || things < 0 || things >= 1 << now.things) {
            return REFUSED;
        }
        int held = at(now.told, juror);
        store(now.told, juror, things);
        if (!now.begun) {
            now.standAsTold();
        }
        return held;
    }

    public int of(int juror, int what) {
        Turn turn = now.turnAt(juror);
        if (turn == null) {
            return REFUSED_FAR;
        }
        switch (what) {
            case 0: return turn.kind;
            case 1: return turn.heeds;
            case 2: return turn.minutes;
            case 3: return turn.line;
            case 4: return turn.patience;
            case 5: return turn.lawNumber;
            case 6: return at(now.held, juror);
            case 7: return at(now.pushed, juror);
            case 8: return now.slips >> juror & 1;
            case 9: return now.gaveIn(juror) ? 1 : 0;
            default: return REFUSED_FAR;
        }
    }

    public int leans(int juror) {
        if (!now.isSeat(juror)) {
            return REFUSED_FAR;
        }
        return now.begun ? now.leaning(juror, now.yes(), now.no()) : now.leaning(juror, 0, 0);
    }

    public int law(int d) {
        Shelf shelf = shelfAt(d);
        if (shelf == null) {
            return REFUSED;
        }
        if (now.laws >= MOST_LAWS) {
            return NO_ROOM;
        }
        if (shelf.isEmpty()) {
            return NOTHING_HELD;
        }
        if (shelf.sort != Shelf.BYTES) {
            return OTHER_KIND;
        }
        Law read = new Law(shelf.elements, shelf.size);
        return read.fault >= 0 ? LAW_FAULT - read.fault : now.addLaw(read);
    }

    public int set(int what, int n) {
        if (what < 0 || what > LIMIT || n < at(RULE_LEAST, what) || n > at(RULE_MOST, what)) {
            return REFUSED;
        }
        int was = at(now.rule, what);
        store(now.rule, what, n);
        return was;
    }

    // ---- talks

    public int begin() {
        if (now.jurors == 0) {
            return NOT_NOW;
        }
        now.beginTalk();
        return now.yes();
    }

    public int go(int n) {
        if (n < 1 || n > 60) {
            return REFUSED;
        }
        if (!now.begun) {
            return NOT_NOW;
        }
        for (int i = 0; i < n && now.ends() == NONE; i++) {
            now.step();
        }
        return now.ends();
    }

    public int talk(int what) {
        if (what < 0 || what > 5) {
            return REFUSED;
        }
        if (!now.begun) {
            return NOT_NOW;
        }
        switch (what) {
            case 0: return now.minute;
            case 1: return now.yes();
            case 2: return now.no();
            case 3: return now.turnsTaken;
            case 4: return now.shared;
            default: return now.ends();
        }
    }

    public int run(int what) {
        if (what < 0 || what > 4) {
            return REFUSED;
        }
        if (now.jurors == 0) {
            return NOT_NOW;
        }
        runInMind();
        switch (what) {
            case 0: return mind.ends();
            case 1: return mind.minute;
            case 2: return mind.turnsTaken;
            case 3: return Integer.bitCount(mind.firstSlips);
            default: return mind.yes();
        }
    }

    public int slips(boolean first) {
        if (now.jurors == 0) {
            return NOT_NOW;
        }
        runInMind();
        return first ? mind.firstSlips : mind.slips;
    }

    public int moved(int juror, int what) {
        if (!now.isSeat(juror) || what < 0 || what > 2) {
            return REFUSED_FAR;
        }
        runInMind();
        if (what == 2) {
            return mind.gaveIn(juror) ? 1 : 0;
        }
        int[] moving = what == 0 ? mind.weight : mind.pushed;
        int last = at(moving, juror);
        mind.beginTalk();
        return last - at(moving, juror);
    }

    public int out(int thing) {
        if (thing < 0 || thing >= now.things) {
            return REFUSED;
        }
        if (now.jurors == 0) {
            return NOT_NOW;
        }
        mind.seatFrom(now, 0);
        mind.beginTalk();
        int began = 0;
        for (int i = 0; i < LONGEST_TALK && !mind.isShared(thing) && mind.ends() == NONE; i++) {
            began = mind.minute;
            mind.step();
        }
        return mind.isShared(thing) ? began : NONE;
    }

    public int one() {
        int some = 0;
        int several = 0;
        for (int seat = 0; seat < now.jurors; seat++) {
            int told = at(now.told, seat);
            several |= some & told;
            some |= told;
        }
        return some & ~several;
    }

    public int six(int n, int what) {
        if (n < 1 || n > now.jurors || what < 0 || what > 2) {
            return REFUSED;
        }
        mind.seatFrom(now, -1 << n);
        int end = mind.runThrough();
        switch (what) {
            case 0: return end;
            case 1: return mind.minute;
            default: return mind.slips;
        }
    }

    public int lost(int k) {
        if (k < 1 || k > MOST) {
            return REFUSED;
        }
        if (now.jurors == 0) {
            return NOT_NOW;
        }
        endWithRule(NEEDED, MOST);
        int sharedByAll = mind.shared;
        endWithRule(NEEDED, k);
        return sharedByAll & ~mind.shared;
    }

    public int leads(int end) {
        if (!isEnd(end)) {
            return REFUSED;
        }
        if (now.jurors == 0) {
            return NOT_NOW;
        }
        int leaders = 0;
        for (int seat = 0; seat < now.jurors; seat++) {
            if (endWithRule(LEADER, seat) == end) {
                leaders |= 1 << seat;
            }
        }
        return leaders;
    }

    public int hands() {
        if (now.jurors == 0) {
            return NOT_NOW;
        }
        return 10 * endWithRule(HANDS, 1) + endWithRule(HANDS, 0);
    }

    public int leftOut(int end) {
        if (!isEnd(end)) {
            return REFUSED;
        }
        if (now.jurors == 0) {
            return NOT_NOW;
        }
        for (int size = 0; size <= MOST_LEFT_OUT && size < now.jurors; size++) {
            for (int set = 0; set < 1 << now.jurors; set++) {
                if (Integer.bitCount(set) == size && endWithout(set, size) == end) {
                    return set;
                }
            }
        }
        return NONE;
    }

    public int worlds(int n, int z, int odds, int what) {
        if (n < 1 || n > 30 || odds < 0 || odds > 100 || what < 0 || what > 2) {
            return REFUSED;
        }
        if (now.jurors == 0) {
            return NOT_NOW;
        }
        mind.seatFrom(now, 0);
        int seed = z;
        int found = 0;
        for (int world = 0; world < n; world++) {
            seed = mind.deal(seed, odds);
            int end = mind.runThrough();
            if (what == 0 ? mind.knewAtFirst() : end == what) {
                found++;
            }
        }
        return found;
    }

    // ---- the image, what is told

    public int image() {
        pictured.becomeLike(now);
        isPictured = true;
        return now.jurors;
    }

    public int restore() {
        if (!isPictured) {
            return NOT_NOW;
        }
        now.becomeLike(pictured);
        return now.jurors;
    }

    public int count(int what) {
        switch (what) {
            case 0: return now.things;
            case 1: return now.jurors;
            case 2: return now.laws;
            case 3: return now.weigh(-1);
            case 4: return now.toldToAll();
            default: return REFUSED_FAR;
        }
    }

    // ---- shelves

    public int keep(int d, int what, int k) {
        Shelf shelf = shelfAt(d);
        Turn turn = what == 1 ? now.turnAt(k) : null;
        if (shelf == null || what < 0 || what > 1 || what == 1 && turn == null) {
            return REFUSED;
        }
        shelf.hold(turn, at(now.told, k));
        return 0;
    }

    public int row(int d, int sort, int n) {
        Shelf shelf = shelfAt(d);
        if (shelf == null || sort < Shelf.BYTES || sort > Shelf.INTS || n > LONGEST_ROW) {
            return REFUSED;
        }
        if (n < 0) {
            return BELOW_ZERO;
        }
        shelf.holdRow(sort, n);
        return 0;
    }

    public int put(int d, int i, int v) {
        Shelf shelf = shelfAt(d);
        if (shelf == null) {
            return REFUSED;
        }
        if (shelf.isEmpty()) {
            return NOTHING_HELD;
        }
        if (!shelf.isRow()) {
            return OTHER_KIND;
        }
        if (!shelf.hasPlaces(i, 1)) {
            return NO_PLACE;
        }
        store(shelf.elements, i, shelf.lowestBits(v));
        return 0;
    }

    public long element(int d, int i) throws IllegalArgumentException, IllegalStateException {
        Shelf shelf = shelfAt(d);
        if (shelf == null) {
            throw new IllegalArgumentException("no such shelf");
        }
        if (!shelf.isRow() || !shelf.hasPlaces(i, 1)) {
            throw new IllegalStateException("no row, or no such place in it");
        }
        return at(shelf.elements, i);
    }

    public int copy(int d, int i, int e, int j, int n) {
        Shelf from = shelfAt(d);
        Shelf to = shelfAt(e);
        if (from == null || to == null) {
            return REFUSED;
        }
        if (from.isEmpty() || to.isEmpty()) {
            return NOTHING_HELD;
        }
        if (!from.isRow() || from.sort != to.sort) {
            return OTHER_KIND;
        }
        if (!from.hasPlaces(i, n) || !to.hasPlaces(j, n)) {
            return NO_PLACE;
        }
        // Both ROWS may be one, so an element is read before a place behind it is written over.
        for (int k = 0; k < n; k++) {
            int step = i < j ? n - 1 - k : k;
            store(to.elements, j + step, at(from.elements, i + step));
        }
        return n;
    }

    public int voice(int d) {
        Shelf shelf = shelfAt(d);
        if (shelf == null) {
            return REFUSED;
        }
        if (shelf.isEmpty()) {
            return NOTHING_HELD;
        }
        Turn turn = shelf.turn;
        return turn == null ? OTHER_KIND : turn.loudness(shelf.things);
    }

    public int toss(int d) {
        Shelf shelf = shelfAt(d);
        if (shelf == null) {
            return REFUSED;
        }
        if (shelf.isEmpty()) {
            return NOTHING_HELD;
        }
        Turn turn = shelf.turn;
        if (turn == null) {
            return OTHER_KIND;
        }
        try {
            turn.fail();
        } catch (IllegalStateException failure) {
            return turn.number;
        } catch (IllegalArgumentException failure) {
            return turn.number + 100;
        } catch (UnsupportedOperationException failure) {
            return turn.heeds + 200;
        }
        return NO_FAILURE;
    }

    // ---- what the calls share

    private static int at(int[] row, int i) {
        return i >= 0 && i < row.length ? row[i] : 0;
    }

    private static void store(int[] row, int i, int v) {
        if (i >= 0 && i < row.length) {
            row[i] = v;
        }
    }

    private static void copyAll(int[] from, int[] to) {
        for (int i = 0; i < from.length && i < to.length; i++) {
            to[i] = from[i];
        }
    }

    private static boolean isEnd(int end) {
        return end == NO || end == YES || end == HUNG;
    }

    private static boolean isToldRight(int told) {
        return told >= 0 && told < 8000 && told % 100 >= 1 && told % 100 <= 30;
    }

    private Shelf shelfAt(int d) {
        return d >= 0 && d < shelves.length ? shelves[d] : null;
    }

    private Turn newTurn(int number, int told, int line, int patience, int lawNumber) {
        Law law = now.lawAt(lawNumber);
        switch (told / 1000) {
            case 1: return new ThingTurn(number, told, line, patience, lawNumber, law);
            case 2: return new CountTurn(number, told, line, patience, lawNumber, law);
            case 3: return new PressTurn(number, told, line, patience, lawNumber, law);
            case 4: return new StoryTurn(number, told, line, patience, lawNumber, law);
            case 5: return new RuleTurn(number, told, line, patience, lawNumber, law);
            case 6: return new SilentTurn(number, told, line, patience, lawNumber, law);
            case 7: return new SleepingTurn(number, told, line, patience, lawNumber, law);
            default: return new Turn(number, told, line, patience, lawNumber, law);
        }
    }

    private void runInMind() {
        mind.seatFrom(now, 0);
        mind.runThrough();
    }

    private int endWithRule(int what, int n) {
        mind.seatFrom(now, 0);
        store(mind.rule, what, n);
        return mind.runThrough();
    }

    private int endWithout(int set, int size) {
        mind.seatFrom(now, set);
        store(mind.rule, NEEDED, Math.max(1, now.needed() - size));
        return mind.runThrough();
    }

    /** What is told, and the TALK in it. Without a TALK all of its state stands as told. */
    private static final class Room {
        private int things;
        private final int[] speaks = new int[MOST];
        private int jurors;
        private final Turn[] turns = new Turn[MOST];
        private final int[] told = new int[MOST];
        private int laws;
        private final Law[] lawsTold = new Law[MOST_LAWS];
        private final int[] rule = {12, 0, 0, 600};

        private boolean begun;
        private int leader;
        private int minute;
        private int turnsTaken;
        private int slips;
        private int firstSlips;
        private int shared;
        private final int[] held = new int[MOST];
        // What the held THINGS SPEAK together: each LAW asks for it anew at every TURN.
        private final int[] weight = new int[MOST];
        private final int[] pushed = new int[MOST];
        // -1 till a juror GIVES IN, then what it says.
        private final int[] gaveInTo = new int[MOST];

        boolean isSeat(int seat) {
            return seat >= 0 && seat < jurors;
        }

        Turn turnAt(int seat) {
            return isSeat(seat) && seat < turns.length ? turns[seat] : null;
        }

        Law lawAt(int number) {
            return number >= 0 && number < laws && number < lawsTold.length ? lawsTold[number] : null;
        }

        int addLaw(Law law) {
            if (laws < 0 || laws >= lawsTold.length) {
                return NO_ROOM;
            }
            lawsTold[laws] = law;
            laws++;
            return laws - 1;
        }

        void sit(Turn turn, int holding) {
            if (jurors >= 0 && jurors < turns.length) {
                turns[jurors] = turn;
                store(told, jurors, holding);
                jurors++;
            }
        }

        int needed() {
            return Math.min(at(rule, NEEDED), jurors);
        }

        int leaderSeat() {
            int seat = at(rule, LEADER);
            return isSeat(seat) ? seat : 0;
        }

        int yes() {
            return Integer.bitCount(slips);
        }

        int no() {
            return jurors - yes();
        }

        int yesLessNo() {
            return 2 * Integer.bitCount(slips) - jurors;
        }

        boolean isShared(int thing) {
            return (shared >> thing & 1) == 1;
        }

        boolean gaveIn(int seat) {
            return at(gaveInTo, seat) >= 0;
        }

        int weigh(int some) {
            int sum = 0;
            for (int thing = 0; thing < things; thing++) {
                if ((some >> thing & 1) == 1) {
                    sum += at(speaks, thing);
                }
            }
            return sum;
        }

        int toldToAll() {
            int all = (1 << things) - 1;
            for (int seat = 0; seat < jurors; seat++) {
                all &= at(told, seat);
            }
            return all;
        }

        int leaning(int seat, int yes, int no) {
            Turn turn = turnAt(seat);
            int t = at(weight, seat);
            int p = at(pushed, seat);
            if (turn == null || turn.law == null) {
                return t + p;
            }
            return turn.law.value(t, p, yes, no, minute);
        }

        void standAsTold() {
            minute = 0;
            turnsTaken = 0;
            slips = 0;
            firstSlips = 0;
            shared = toldToAll();
            for (int seat = 0; seat < jurors; seat++) {
                store(held, seat, at(told, seat));
                store(weight, seat, weigh(at(told, seat)));
                store(pushed, seat, 0);
                store(gaveInTo, seat, -1);
            }
        }

        void beginTalk() {
            standAsTold();
            begun = true;
            leader = leaderSeat();
            int shownYes = 0;
            for (int shown = 0; shown < jurors; shown++) {
                int seat = seatFromLeader(shown);
                Turn turn = turnAt(seat);
                if (turn != null && at(rule, HANDS) == 1) {
                    int shownNo = shown - shownYes;
                    store(pushed, seat, turn.heeds * (shownYes - shownNo));
                }
                if (turn != null && leaning(seat, 0, 0) >= turn.line) {
                    slips |= 1 << seat;
                    shownYes++;
                }
            }
            firstSlips = slips;
        }

        int seatFromLeader(int places) {
            return jurors > 0 ? (leader + places) % jurors : 0;
        }

        int ends() {
            if (yes() >= needed()) {
                return YES;
            }
            if (no() >= needed()) {
                return NO;
            }
            return minute >= at(rule, LIMIT) ? HUNG : NONE;
        }

        void step() {
            int seat = seatFromLeader(turnsTaken);
            Turn turn = turnAt(seat);
            if (turn != null) {
                turn.act(this, seat);
                minute += turn.minutes;
            }
            turnsTaken++;
            takeSlips();
        }

        private void takeSlips() {
            int yes = yes();
            int no = no();
            int taken = 0;
            for (int seat = 0; seat < jurors; seat++) {
                Turn turn = turnAt(seat);
                boolean says = turn != null && leaning(seat, yes, no) >= turn.line;
                if (gaveIn(seat)) {
                    says = at(gaveInTo, seat) == YES;
                }
                if (says) {
                    taken |= 1 << seat;
                }
            }
            slips = taken;
        }

        int runThrough() {
            beginTalk();
            for (int i = 0; i < LONGEST_TALK && ends() == NONE; i++) {
                step();
            }
            return ends();
        }

        boolean knewAtFirst() {
            int firstYes = Integer.bitCount(firstSlips);
            int firstNo = jurors - firstYes;
            return firstYes > firstNo && ends() == YES || firstNo > firstYes && ends() == NO;
        }

        /** Of the THINGS that this one HOLDS and not all do, the one that SPEAKS most, or -4. */
        int loudestNotShared(int seat) {
            int open = at(held, seat) & ~shared;
            int loudest = NONE;
            int most = -1;
            for (int thing = 0; thing < things; thing++) {
                int loud = Math.abs(at(speaks, thing));
                if ((open >> thing & 1) == 1 && loud > most) {
                    loudest = thing;
                    most = loud;
                }
            }
            return loudest;
        }

        void giveToAll(int thing) {
            for (int seat = 0; seat < jurors; seat++) {
                int holding = at(held, seat);
                if ((holding >> thing & 1) == 0) {
                    store(held, seat, holding | 1 << thing);
                    store(weight, seat, at(weight, seat) + at(speaks, thing));
                }
            }
            shared |= 1 << thing;
        }

        void push(int seat, int by) {
            store(pushed, seat, at(pushed, seat) + by);
        }

        /** Tells anew by a seed what each one HOLDS: the seed that comes next. */
        int deal(int seed, int odds) {
            int z = seed;
            for (int seat = 0; seat < jurors; seat++) {
                int holding = 0;
                for (int thing = 0; thing < things; thing++) {
                    z = z * 1103515245 + 12345;
                    if ((z & 0x7fffffff) / 65536 % 100 < odds) {
                        holding |= 1 << thing;
                    }
                }
                store(told, seat, holding);
            }
            return z;
        }

        /** Takes all that a RUN asks for from another room, but the JURORS left out. */
        void seatFrom(Room other, int without) {
            things = other.things;
            copyAll(other.speaks, speaks);
            copyAll(other.rule, rule);
            store(rule, LEADER, 0);
            jurors = 0;
            for (int seat = 0; seat < other.jurors; seat++) {
                if ((without >> seat & 1) == 0) {
                    if (seat == other.leaderSeat()) {
                        store(rule, LEADER, jurors);
                    }
                    sit(other.turnAt(seat), at(other.told, seat));
                }
            }
        }

        void becomeLike(Room other) {
            seatFrom(other, 0);
            copyAll(other.rule, rule);
            laws = other.laws;
            for (int number = 0; number < lawsTold.length; number++) {
                lawsTold[number] = other.lawAt(number);
            }
            begun = other.begun;
            leader = other.leader;
            minute = other.minute;
            turnsTaken = other.turnsTaken;
            slips = other.slips;
            firstSlips = other.firstSlips;
            shared = other.shared;
            copyAll(other.held, held);
            copyAll(other.weight, weight);
            copyAll(other.pushed, pushed);
            copyAll(other.gaveInTo, gaveInTo);
        }
    }

    /** A JUROR by the kind of its TURNS; what it HOLDS is the room's, so that rooms may share it. */
    private static class Turn {
        final int number;
        final int kind;
        final int heeds;
        final int minutes;
        final int line;
        final int patience;
        final int lawNumber;
        // None for LAW -1.
        final Law law;

        Turn(int number, int told, int line, int patience, int lawNumber, Law law) {
            this.number = number;
            this.kind = told / 1000;
            this.heeds = told / 100 % 10;
            this.minutes = told % 100;
            this.line = line;
            this.patience = patience;
            this.lawNumber = lawNumber;
            this.law = law;
        }

        void act(Room room, int seat) {
        }

        int loudness(int things) {
            return minutes;
        }

        void fail() {
            if (heeds > 0) {
                throw new IllegalStateException("a juror that heeds others fails");
            }
        }
    }

    private static class ThingTurn extends Turn {
        ThingTurn(int number, int told, int line, int patience, int lawNumber, Law law) {
            super(number, told, line, patience, lawNumber, law);
        }

        void act(Room room, int seat) {
            int thing = room.loudestNotShared(seat);
            if (thing >= 0) {
                room.giveToAll(thing);
            }
        }

        int loudness(int things) {
            return super.loudness(things) + Integer.bitCount(things);
        }
    }

    private static final class StoryTurn extends ThingTurn {
        StoryTurn(int number, int told, int line, int patience, int lawNumber, Law law) {
            super(number, told, line, patience, lawNumber, law);
        }

        void act(Room room, int seat) {
            super.act(room, seat);
            int yes = room.yes();
            int no = room.no();
            int by = (room.slips >> seat & 1) == 1 ? 2 : -2;
            for (int other = 0; other < room.jurors; other++) {
                Turn turn = room.turnAt(other);
                // A LAW may answer any int, so the distance needs more than an int.
                long far = turn == null ? 5 : (long) room.leaning(other, yes, no) - turn.line;
                if (far > -5 && far < 5) {
                    room.push(other, by);
                }
            }
        }

        int loudness(int things) {
            return super.loudness(things) + 5;
        }

        void fail() {
            if (heeds > 0) {
                throw new UnsupportedOperationException("a story that heeds others fails");
            }
        }
    }

    private static class CountTurn extends Turn {
        CountTurn(int number, int told, int line, int patience, int lawNumber, Law law) {
            super(number, told, line, patience, lawNumber, law);
        }

        void act(Room room, int seat) {
            int more = room.yesLessNo();
            for (int other = 0; other < room.jurors; other++) {
                Turn turn = room.turnAt(other);
                if (turn != null) {
                    room.push(other, turn.heeds * more / 4);
                }
            }
        }

        int loudness(int things) {
            return super.loudness(things) + heeds;
        }
    }

    private static final class PressTurn extends CountTurn {
        PressTurn(int number, int told, int line, int patience, int lawNumber, Law law) {
            super(number, told, line, patience, lawNumber, law);
        }

        void act(Room room, int seat) {
            super.act(room, seat);
            int more = room.yesLessNo();
            if (more == 0) {
                return;
            }
            int fewer = more > 0 ? NO : YES;
            for (int other = 0; other < room.jurors; other++) {
                Turn turn = room.turnAt(other);
                if (turn != null && (room.slips >> other & 1) == fewer) {
                    room.push(other, more > 0 ? 2 * turn.heeds : -2 * turn.heeds);
                }
            }
        }

        int loudness(int things) {
            return 2 * super.loudness(things);
        }

        void fail() {
            if (heeds > 0) {
                throw new IllegalArgumentException("a pressing juror that heeds others fails");
            }
        }
    }

    private static final class RuleTurn extends Turn {
        RuleTurn(int number, int told, int line, int patience, int lawNumber, Law law) {
            super(number, told, line, patience, lawNumber, law);
        }

        void act(Room room, int seat) {
            for (int other = 0; other < room.jurors; other++) {
                store(room.pushed, other, at(room.pushed, other) / 2);
            }
        }

        int loudness(int things) {
            return super.loudness(things) + 10;
        }
    }

    private static class SilentTurn extends Turn {
        SilentTurn(int number, int told, int line, int patience, int lawNumber, Law law) {
            super(number, told, line, patience, lawNumber, law);
        }

        int loudness(int things) {
            return super.loudness(things) - 1;
        }

        void fail() {
        }
    }

    private static final class SleepingTurn extends SilentTurn {
        SleepingTurn(int number, int told, int line, int patience, int lawNumber, Law law) {
            super(number, told, line, patience, lawNumber, law);
        }

        void act(Room room, int seat) {
            if (room.minute >= patience && !room.gaveIn(seat)) {
                store(room.gaveInTo, seat, room.yes() >= room.no() ? YES : NO);
            }
        }

        int loudness(int things) {
            return super.loudness(things) + patience;
        }
    }

    /** A LAW, read once into signs in the order in which a stack takes them. */
    private static final class Law {
        private static final int DEEPEST = 6;
        private static final int LONGEST_NUMBER = 3;
        // No byte is this one.
        private static final int END = 1000;

        private final int[] text;
        private int place;
        // Letters and marks as they are; a NUMBER as -1 less it.
        private final int[] signs;
        private int signCount;
        private final int[] stack;
        private int fault = -1;

        Law(int[] bytes, int size) {
            int length = Math.max(0, Math.min(size, bytes.length));
            text = new int[length];
            signs = new int[length];
            stack = new int[length];
            copyAll(bytes, text);
            readSum(0);
            if (place < length) {
                findFault();
            }
        }

        private int next() {
            return place >= 0 && place < text.length ? text[place] : END;
        }

        private void findFault() {
            if (fault < 0) {
                fault = place;
            }
        }

        private void take(int mark) {
            if (fault < 0 && next() == mark) {
                place++;
            } else {
                findFault();
            }
        }

        private void write(int sign) {
            store(signs, signCount, sign);
            signCount++;
        }

        private void readSum(int depth) {
            readProduct(depth);
            for (int i = 0; i < text.length && fault < 0 && (next() == '+' || next() == '-'); i++) {
                int mark = next();
                place++;
                readProduct(depth);
                write(mark);
            }
        }

        private void readProduct(int depth) {
            readAtom(depth);
            for (int i = 0; i < text.length && fault < 0 && (next() == '*' || next() == '/'); i++) {
                int mark = next();
                place++;
                readAtom(depth);
                write(mark);
            }
        }

        private void readAtom(int depth) {
            int mark = next();
            if (mark == '(' || mark == '[') {
                readBracket(mark, depth);
            } else if (mark >= '0' && mark <= '9') {
                readNumber();
            } else if (mark == 't' || mark == 'p' || mark == 'y' || mark == 'n' || mark == 'm') {
                place++;
                write(mark);
            } else {
                findFault();
            }
        }

        private void readBracket(int mark, int depth) {
            if (depth >= DEEPEST) {
                findFault();
                return;
            }
            place++;
            readSum(depth + 1);
            if (mark == '(') {
                take(')');
                return;
            }
            take(',');
            if (fault < 0) {
                readSum(depth + 1);
                take(']');
                write(',');
            }
        }

        private void readNumber() {
            int number = 0;
            for (int i = 0; i < LONGEST_NUMBER && next() >= '0' && next() <= '9'; i++) {
                number = 10 * number + next() - '0';
                place++;
                if (number == 0) {
                    break;
                }
            }
            write(-1 - number);
        }

        int value(int t, int p, int y, int n, int m) {
            int top = 0;
            for (int i = 0; i < signCount && i < signs.length; i++) {
                int sign = signs[i];
                if (isMark(sign)) {
                    if (top >= 2 && top <= stack.length) {
                        stack[top - 2] = joined(sign, stack[top - 2], stack[top - 1]);
                        top--;
                    }
                } else if (top >= 0 && top < stack.length) {
                    stack[top] = single(sign, t, p, y, n, m);
                    top++;
                }
            }
            return at(stack, 0);
        }

        private static boolean isMark(int sign) {
            return sign == '+' || sign == '-' || sign == '*' || sign == '/' || sign == ',';
        }

        private static int joined(int mark, int a, int b) {
            switch (mark) {
                case '+': return a + b;
                case '-': return a - b;
                case '*': return a * b;
                case '/': return b == 0 ? 0 : a / b;
                default: return a > b ? a : b;
            }
        }

        private static int single(int sign, int t, int p, int y, int n, int m) {
            switch (sign) {
                case 't': return t;
                case 'p': return p;
                case 'y': return y;
                case 'n': return n;
                case 'm': return m;
                default: return -1 - sign;
            }
        }
    }

    /** Holds nothing, a JUROR as it was then, or a ROW. */
    private static final class Shelf {
        private static final int NO_ROW = -1;
        private static final int BYTES = 0;
        private static final int SHORTS = 1;
        private static final int INTS = 2;

        private Turn turn;
        private int things;
        private int sort = NO_ROW;
        private int size;
        private final int[] elements = new int[LONGEST_ROW];

        boolean isRow() {
            return sort != NO_ROW;
        }

        boolean isEmpty() {
            return turn == null && !isRow();
        }

        void hold(Turn juror, int holding) {
            turn = juror;
            things = holding;
            sort = NO_ROW;
        }

        void holdRow(int newSort, int newSize) {
            turn = null;
            sort = newSort;
            size = newSize;
            for (int i = 0; i < elements.length; i++) {
                elements[i] = 0;
            }
        }

        boolean hasPlaces(int i, int n) {
            return i >= 0 && n >= 0 && n <= size && i <= size - n;
        }

        int lowestBits(int v) {
            switch (sort) {
                case BYTES: return (byte) v;
                case SHORTS: return (short) v;
                default: return v;
            }
        }
    }
}
