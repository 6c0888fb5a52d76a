import java.util.Arrays;

/**
 * An inn that an avalanche keeps: a slope of lanes and rows with snow, rooms and guests below it, told in a text;
 * hours, shouts and other acts on it, and forecasts of what they would do.
 *
 * <p>Every row that a call needs is made in the constructors and used again, so that no call makes objects.
 */
public final class AvalancheInn {
    public static final int NONE = -1;

    private static final int MAX_BYTES = 1600;
    private static final int FEED_BYTES = 20;
    private static final int MAX_LANES = 6;
    private static final int MAX_ROWS = 5;
    private static final int MAX_CELLS = MAX_LANES * MAX_ROWS;
    private static final int MAX_ROOMS = 5;
    private static final int MAX_GUESTS = 6;
    private static final int MAX_SNOW = 99;
    private static final int MAX_SHOUT = 99;
    private static final int MAX_HOUR = 999;
    private static final int DAY = 48;
    private static final int MAX_ACTS = 40;
    private static final int MAX_SEEN = 30;
    private static final int MAX_TIME = 100000;
    private static final int MAX_LATER = 1000;
    private static final int BOXES = 3;
    private static final int FAR = 60;
    private static final int NEAR = 24;
    private static final int DUEL_HOURS = 6;
    private static final int DUEL_LOSS = 25;
    private static final int MAX_TOP = 30;
    private static final int NO_WALL = 0;
    private static final int LEFT_WALL = 1;
    private static final int RIGHT_WALL = 2;
    private static final int NO_NUMBER = -2;

    private final byte[] tape = new byte[MAX_BYTES];
    private int tapeLength;
    private final Parser parser;
    private Pass told;
    private Pass spare = new Pass();
    private final Journal journal = new Journal();
    private final State[] boxes = new State[BOXES];
    private int fullBoxes;
    private final Hill hill;
    private final Planner planner;
    private final Memory memory = new Memory();
    private final int[] lying = new int[MAX_ROOMS];
    private int lyingCount;

    public AvalancheInn() {
        Pass empty = new Pass();
        Hill bare = new Hill(empty);
        told = empty;
        hill = bare;
        parser = new Parser(empty);
        planner = new Planner(bare, empty);
        for (int i = 0; i < BOXES; i++) {
            boxes[i] = new State();
        }
    }

    public int feed(int a, int b, int c, int d, int e) {
        if (tapeLength + FEED_BYTES > MAX_BYTES) {
            return NONE;
        }
        putBytes(a);
        putBytes(b);
        putBytes(c);
        putBytes(d);
        putBytes(e);
        return tapeLength;
    }

    private void putBytes(int number) {
        for (int shift = 24; shift >= 0 && tapeLength < MAX_BYTES; shift -= 8) {
            tape[tapeLength] = (byte) (number >> shift);
            tapeLength++;
        }
    }

    public int end(int n) {
        if (n < 0 || n > tapeLength) {
            return NONE;
        }
        tapeLength = n;
        return n;
    }

    public int pass() {
        if (!parser.readTape(spare, tape, tapeLength)) {
            return NONE;
        }
        Pass old = told;
        told = spare;
        spare = old;
        tapeLength = 0;
        journal.restart(told.first);
        memory.forget();
        fullBoxes = 0;
        lyingCount = 0;
        return told.rooms;
    }

    public int fault(int what) {
        return switch (what) {
            case 0 -> parser.faultKind;
            case 1 -> parser.faultPlace;
            default -> NONE;
        };
    }

    public int cell(int lane, int row, int what) {
        if (!told.hasCell(lane, row)) {
            return NONE;
        }
        State now = journal.current();
        int cell = cellAt(lane, row);
        return switch (what) {
            case 0 -> now.snow[cell];
            case 1 -> now.walls[cell];
            case 2 -> told.steep[row];
            case 3 -> tipsNow(now, lane, row) ? 1 : 0;
            default -> NONE;
        };
    }

    private boolean tipsNow(State now, int lane, int row) {
        hill.suppose(told, now);
        return hill.wouldTip(lane, row, 0);
    }

    public int room(int room, int what) {
        if (!told.hasRoom(room)) {
            return NONE;
        }
        State now = journal.current();
        return switch (what) {
            case 0 -> now.lanes[room];
            case 1 -> told.bears[room];
            case 2 -> told.rates[room];
            case 3 -> now.isGone(room) ? 0 : 1;
            default -> NONE;
        };
    }

    public int guest(int guest, int what) {
        if (!told.hasGuest(guest)) {
            return NONE;
        }
        return switch (what) {
            case 0 -> told.guestRooms[guest];
            case 1 -> told.guestNoises[guest];
            case 2 -> told.guestFroms[guest];
            case 3 -> told.guestTos[guest];
            case 4 -> journal.current().isHushed(guest) ? 1 : 0;
            default -> NONE;
        };
    }

    public int noise(int lane) {
        if (!told.hasLane(lane)) {
            return NONE;
        }
        hill.suppose(told, journal.current());
        return hill.noises[lane];
    }

    public int hour() {
        if (journal.current().hour >= MAX_HOUR) {
            return NONE;
        }
        State now = journal.beginAct();
        int before = now.gone;
        hill.actOn(told, now);
        hill.passHour(told.falls, true);
        return now.gone & ~before;
    }

    public int shout(int lane, int loud) {
        if (!told.hasLane(lane) || loud < 0 || loud > MAX_SHOUT) {
            return NONE;
        }
        State now = journal.beginAct();
        int before = now.gone;
        hill.actOn(told, now);
        hill.shoutIn(lane, loud);
        return now.gone & ~before;
    }

    public int move(int room, int lane) {
        if (!told.hasRoom(room) || !told.hasLane(lane)) {
            return NONE;
        }
        int from = journal.current().lanes[room];
        if (from == lane || journal.current().isGone(room)) {
            return NONE;
        }
        journal.beginAct().lanes[room] = lane;
        return from;
    }

    public int build(int room) {
        if (!told.hasRoom(room) || !journal.current().isGone(room)) {
            return NONE;
        }
        State now = journal.beginAct();
        now.gone &= ~(1 << room);
        return told.rooms - Integer.bitCount(now.gone);
    }

    public int hush(int guest) {
        if (!told.hasGuest(guest) || journal.current().isHushed(guest)) {
            return NONE;
        }
        State now = journal.beginAct();
        now.hushed |= 1 << guest;
        return now.hushed;
    }

    public int let(int guest) {
        if (!told.hasGuest(guest) || !journal.current().isHushed(guest)) {
            return NONE;
        }
        State now = journal.beginAct();
        now.hushed &= ~(1 << guest);
        return now.hushed;
    }

    public int wall(int lane, int row, int side) {
        if (!told.hasCell(lane, row) || side < NO_WALL || side > RIGHT_WALL) {
            return NONE;
        }
        int cell = cellAt(lane, row);
        int had = journal.current().walls[cell];
        if (had == side) {
            return NONE;
        }
        journal.beginAct().walls[cell] = side;
        return had;
    }

    public int shovel(int lane, int row) {
        if (!told.hasCell(lane, row)) {
            return NONE;
        }
        int cell = cellAt(lane, row);
        int had = journal.current().snow[cell];
        if (had == 0) {
            return NONE;
        }
        journal.beginAct().snow[cell] = 0;
        return had;
    }

    public boolean undo() {
        return journal.stepBack();
    }

    public boolean redo() {
        return journal.stepOn();
    }

    public int will(int n, int what) {
        if (n < 0 || n > FAR || what < 0 || what > 1) {
            return NONE;
        }
        hill.suppose(told, journal.current());
        hill.passHours(n, told.falls, what == 1);
        return hill.state.gone;
    }

    public int depth(int lane, int row, int n) {
        if (!told.hasCell(lane, row) || !supposeHours(n)) {
            return NONE;
        }
        return hill.state.snow[cellAt(lane, row)];
    }

    public int left(int n) {
        return supposeHours(n) ? hill.standingRates() : NONE;
    }

    public int purse(int n) {
        return supposeHours(n) ? hill.state.purse : NONE;
    }

    /** The hill is as it will be behind n hours without wind; false, if there is no such n. */
    private boolean supposeHours(int n) {
        if (n < 0 || n > FAR) {
            return false;
        }
        hill.suppose(told, journal.current());
        hill.passHours(n, told.falls, false);
        return true;
    }

    public int when(int room) {
        if (!told.hasRoom(room)) {
            return NONE;
        }
        return hoursTillGone(1 << room);
    }

    /** Behind how many hours one of these rooms is gone first; NONE if not in the next 60. */
    private int hoursTillGone(int rooms) {
        hill.suppose(told, journal.current());
        for (int n = 0; n < FAR && (hill.state.gone & rooms) == 0; n++) {
            hill.passHour(told.falls, false);
        }
        if ((hill.state.gone & rooms) == 0) {
            return NONE;
        }
        return hill.state.hour - journal.current().hour;
    }

    public int next() {
        hill.suppose(told, journal.current());
        for (int n = 1; n <= FAR; n++) {
            hill.passHour(told.falls, false);
            if (hill.tipped > 0) {
                return n;
            }
        }
        return NONE;
    }

    public int first(int lane) {
        if (!told.hasLane(lane)) {
            return NONE;
        }
        hill.suppose(told, journal.current());
        for (int n = 1; n <= FAR; n++) {
            hill.passHour(told.falls, false);
            if (hill.brunts[lane] > 0) {
                return n;
            }
        }
        return NONE;
    }

    public int track(int lane, int row, int what) {
        if (!told.hasCell(lane, row) || what < 0 || what > 1) {
            return NO_NUMBER;
        }
        hill.suppose(told, journal.current());
        hill.goDown(lane, row);
        return what == 0 ? hill.endLane : hill.endLoad;
    }

    public int least(int lane) {
        if (!told.hasLane(lane)) {
            return NONE;
        }
        hill.suppose(told, journal.current());
        for (int loud = 0; loud <= MAX_SHOUT; loud++) {
            for (int row = 0; row < told.rows; row++) {
                if (hill.wouldTip(lane, row, loud)) {
                    return loud;
                }
            }
        }
        return NONE;
    }

    public int places(int n) {
        lyingCount = 0;
        if (n < 0 || n > NEAR) {
            return NONE;
        }
        int most = planner.findPlaces(told, journal.current(), n);
        for (int room = 0; room < told.rooms; room++) {
            putDown(planner.bestLanes[room]);
        }
        return most;
    }

    private void putDown(int number) {
        if (lyingCount < MAX_ROOMS) {
            lying[lyingCount] = number;
            lyingCount++;
        }
    }

    public int quiet(int n, int what) {
        if (n < 0 || n > NEAR || what < 0 || what > 1) {
            return NONE;
        }
        int guests = planner.findHush(told, journal.current(), n);
        return guests == NONE || what == 1 ? guests : Integer.bitCount(guests);
    }

    public int dam(int n, int what) {
        if (n < 0 || n > NEAR || what < 0 || what > 3) {
            return NONE;
        }
        if (!planner.findDam(told, journal.current(), n)) {
            return NONE;
        }
        return switch (what) {
            case 0 -> planner.bestLane;
            case 1 -> planner.bestRow;
            case 2 -> planner.bestSide;
            default -> planner.bestLeft;
        };
    }

    public int brunt(int lane, int n) {
        if (!told.hasLane(lane) || !supposeHours(n)) {
            return NONE;
        }
        return hill.brunts[lane];
    }

    public int gable(int n) {
        if (!supposeHours(n)) {
            return NONE;
        }
        int best = 0;
        for (int lane = 1; lane < told.lanes; lane++) {
            if (hill.brunts[lane] < hill.brunts[best]) {
                best = lane;
            }
        }
        return best;
    }

    public int dig(int n, int what) {
        if (n < 0 || n > NEAR || what < 0 || what > 2) {
            return NONE;
        }
        planner.findShovel(told, journal.current(), n);
        return switch (what) {
            case 0 -> planner.bestLane;
            case 1 -> planner.bestRow;
            default -> planner.bestLeft;
        };
    }

    public int duel(int guest, int other) {
        lyingCount = 0;
        if (!told.hasGuest(guest) || !told.hasGuest(other) || guest == other) {
            return NONE;
        }
        int rests = planner.findRests(told, journal.current(), guest, other);
        if (rests > 0) {
            putDown(planner.firstRest >> 1);
            putDown(planner.firstRest & 1);
        }
        return rests;
    }

    public int fear(int what) {
        if (what < 0 || what > 1) {
            return NONE;
        }
        hill.suppose(told, journal.current());
        int bestLane = 0;
        int bestRow = 0;
        int most = NONE;
        for (int lane = 0; lane < told.lanes; lane++) {
            for (int row = 0; row < told.rows; row++) {
                hill.goDown(lane, row);
                if (hill.endLoad > most) {
                    most = hill.endLoad;
                    bestLane = lane;
                    bestRow = row;
                }
            }
        }
        return what == 0 ? bestLane : bestRow;
    }

    public int borne(int lane) {
        if (!told.hasLane(lane)) {
            return NONE;
        }
        State now = journal.current();
        for (int loud = MAX_SHOUT; loud >= 0; loud--) {
            hill.suppose(told, now);
            hill.shoutIn(lane, loud);
            if (hill.state.gone == now.gone) {
                return loud;
            }
        }
        return NONE;
    }

    public int poor() {
        int all = (1 << told.rooms) - 1;
        if (hoursTillGone(all) == NONE) {
            return NONE;
        }
        return lowestBit(hill.state.gone & all);
    }

    public int awake(int hour) {
        return hour < 0 || hour >= DAY ? NONE : told.awakeAt(journal.current(), hour);
    }

    public int heap(int lane) {
        if (!told.hasLane(lane)) {
            return NONE;
        }
        int sum = 0;
        for (int row = 0; row < told.rows; row++) {
            sum += journal.current().snow[cellAt(lane, row)];
        }
        return sum;
    }

    public int law(int n) {
        if (n < 0 || n > 9) {
            return NONE;
        }
        hill.suppose(told, journal.current());
        hill.passHours(NEAR, n, false);
        return hill.standingRates();
    }

    public int odds(int n, int part) {
        if (n < 0 || n > 4 || part < 0 || part > 1) {
            return NONE;
        }
        int upper = 1;
        int lower = 1;
        for (int i = 0; i < n; i++) {
            upper *= 100 - told.wind;
            lower *= 100;
        }
        int shared = greatestDivisor(upper, lower);
        if (shared <= 0) {
            return NONE;
        }
        return part == 0 ? upper / shared : lower / shared;
    }

    private static int greatestDivisor(int a, int b) {
        int rest = a;
        int divisor = b;
        for (int i = 0; i < 64 && rest > 0; i++) {
            int smaller = divisor % rest;
            divisor = rest;
            rest = smaller;
        }
        return divisor;
    }

    public int lies(int i) {
        return i < 0 || i >= lyingCount || i >= MAX_ROOMS ? NO_NUMBER : lying[i];
    }

    public int seen(int hours, int room, boolean is) {
        if (hours < 0 || hours > NEAR || !told.hasRoom(room)) {
            return NONE;
        }
        return memory.tell(hours, room, is);
    }

    public boolean untell(int seen) {
        return memory.takeBack(seen);
    }

    public int later(int by) {
        if (by < 0 || by > MAX_LATER || memory.time + by > MAX_TIME) {
            return NONE;
        }
        memory.time += by;
        return memory.time;
    }

    public int fits(int k) {
        return memory.findFitting(hill, told, k);
    }

    public int sure(int what, int k) {
        if (what < 0 || what > 1 || memory.findFitting(hill, told, k) == 0) {
            return NONE;
        }
        return what == 0 ? lowestBit(memory.fitting) : highestBit(memory.fitting);
    }

    public int ask(int what, int k) {
        if (what < 0 || what > 1 || memory.findFitting(hill, told, k) == 0) {
            return NONE;
        }
        memory.findQuestion();
        return what == 0 ? memory.questionHours : memory.questionLeft;
    }

    public int image(int box) {
        if (box < 0 || box >= BOXES) {
            return NONE;
        }
        boxes[box].copyFrom(journal.current());
        fullBoxes |= 1 << box;
        return journal.current().hour;
    }

    public int back(int box) {
        if (box < 0 || box >= BOXES || (fullBoxes >> box & 1) == 0) {
            return NONE;
        }
        journal.restart(boxes[box]);
        return journal.current().hour;
    }

    public int about(int what) {
        State now = journal.current();
        return switch (what) {
            case 0 -> told.rooms;
            case 1 -> told.guests;
            case 2 -> told.lanes;
            case 3 -> told.rows;
            case 4 -> now.gone;
            case 5 -> now.hushed;
            case 6 -> now.purse;
            case 7 -> now.hour;
            case 8 -> now.seed;
            case 9 -> journal.undoable;
            case 10 -> journal.redoable;
            case 11 -> memory.count;
            case 12 -> memory.time;
            case 13 -> tapeLength;
            case 14 -> told.tips.units;
            case 15 -> lyingCount;
            case 16 -> told.falls;
            case 17 -> told.wind;
            default -> NONE;
        };
    }

    private static int lowestBit(int bits) {
        int bit = 0;
        while (bit < 31 && (bits >> bit & 1) == 0) {
            bit++;
        }
        return bit;
    }

    private static int highestBit(int bits) {
        int bit = 31;
        while (bit > 0 && (bits >> bit & 1) == 0) {
            bit--;
        }
        return bit;
    }

    /** Where a cell of these numbers stands in a row of all cells; only for lanes and rows that there can be. */
    private static int cellAt(int lane, int row) {
        return lane * MAX_ROWS + row;
    }

    /** All that acts change; one is copied into another whole. */
    private static final class State {
        final int[] snow = new int[MAX_CELLS];
        final int[] walls = new int[MAX_CELLS];
        final int[] lanes = new int[MAX_ROOMS];
        int gone;
        int hushed;
        int purse;
        int hour;
        int seed;

        void copyFrom(State other) {
            System.arraycopy(other.snow, 0, snow, 0, MAX_CELLS);
            System.arraycopy(other.walls, 0, walls, 0, MAX_CELLS);
            System.arraycopy(other.lanes, 0, lanes, 0, MAX_ROOMS);
            gone = other.gone;
            hushed = other.hushed;
            purse = other.purse;
            hour = other.hour;
            seed = other.seed;
        }

        void clear() {
            Arrays.fill(snow, 0);
            Arrays.fill(walls, NO_WALL);
            Arrays.fill(lanes, 0);
            gone = 0;
            hushed = 0;
            purse = 0;
            hour = 0;
            seed = 0;
        }

        boolean isGone(int room) {
            return (gone >> room & 1) != 0;
        }

        boolean isHushed(int guest) {
            return (hushed >> guest & 1) != 0;
        }
    }

    /** What a text tells. */
    private static final class Pass {
        int lanes;
        int rows;
        final int[] steep = new int[MAX_ROWS];
        int rooms;
        final int[] bears = new int[MAX_ROOMS];
        final int[] rates = new int[MAX_ROOMS];
        int guests;
        final int[] guestRooms = new int[MAX_GUESTS];
        final int[] guestNoises = new int[MAX_GUESTS];
        final int[] guestFroms = new int[MAX_GUESTS];
        final int[] guestTos = new int[MAX_GUESTS];
        final Formula tips = new Formula();
        int falls;
        int wind;
        final State first = new State();

        Pass() {
            setEmpty();
        }

        void setEmpty() {
            lanes = 4;
            rows = 3;
            rooms = 0;
            guests = 0;
            falls = 1;
            wind = 0;
            Arrays.fill(steep, 3);
            tips.setUsual();
            first.clear();
        }

        boolean hasLane(int lane) {
            return lane >= 0 && lane < lanes && lane < MAX_LANES;
        }

        boolean hasCell(int lane, int row) {
            return hasLane(lane) && row >= 0 && row < rows && row < MAX_ROWS;
        }

        boolean hasRoom(int room) {
            return room >= 0 && room < rooms && room < MAX_ROOMS;
        }

        boolean hasGuest(int guest) {
            return guest >= 0 && guest < guests && guest < MAX_GUESTS;
        }

        /** The guests who make noise at an hour of the day, as bits. */
        int awakeAt(State state, int hour) {
            int bits = 0;
            for (int guest = 0; guest < guests; guest++) {
                int silent = state.hushed >> guest & 1 | state.gone >> guestRooms[guest] & 1;
                if (silent == 0 && guestFroms[guest] <= hour && hour <= guestTos[guest]) {
                    bits |= 1 << guest;
                }
            }
            return bits;
        }
    }

    /** A formula in the order in which a stack works it out. */
    private static final class Formula {
        static final int NUMBER = 0;
        static final int FACT = 1;
        static final int NOT = 2;
        static final int OR = 3;
        static final int AND = 4;
        static final int LESS = 5;
        static final int MORE = 6;
        static final int SAME = 7;
        static final int PLUS = 8;
        static final int MINUS = 9;
        static final int TIMES = 10;
        static final int SHARE = 11;
        static final int REST = 12;

        static final int SNOW = 0;
        static final int STEEP = 1;
        static final int NOISE = 2;
        static final int BELOW = 3;
        static final int HOUR = 4;
        static final int ROW = 5;
        static final int FACTS = 6;

        static final int MAX_UNITS = 30;
        static final int MAX_WITHIN = 6;
        // each unit once, a sign between any two, and the nots that can stand around each
        private static final int MAX_STEPS = MAX_UNITS * (2 + MAX_WITHIN + 1);

        private final int[] kinds = new int[MAX_STEPS];
        private final int[] numbers = new int[MAX_STEPS];
        private final int[] stack = new int[MAX_UNITS + 1];
        private int steps;
        private boolean usual;
        int units;
        boolean heedsNoise;

        void empty() {
            usual = false;
            steps = 0;
            units = 0;
            heedsNoise = false;
        }

        void setUsual() {
            empty();
            usual = true;
            heedsNoise = true;
        }

        void add(int kind, int number) {
            if (steps < MAX_STEPS) {
                kinds[steps] = kind;
                numbers[steps] = number;
                steps++;
            }
            heedsNoise |= kind == FACT && number == NOISE;
        }

        int worth(int[] facts) {
            if (usual) {
                return facts[SNOW] * facts[STEEP] + facts[NOISE] - 40;
            }
            int top = 0;
            for (int i = 0; i < steps; i++) {
                int kind = kinds[i];
                if (kind == NUMBER || kind == FACT) {
                    if (top < MAX_UNITS) {
                        stack[top] = kind == NUMBER ? numbers[i] : facts[numbers[i]];
                        top++;
                    }
                } else if (kind == NOT && top > 0) {
                    stack[top - 1] = stack[top - 1] == 0 ? 1 : 0;
                } else if (top > 1) {
                    top--;
                    stack[top - 1] = joined(kind, stack[top - 1], stack[top]);
                }
            }
            return stack[0];
        }

        private static int joined(int kind, int a, int b) {
            return switch (kind) {
                case OR -> a != 0 || b != 0 ? 1 : 0;
                case AND -> a != 0 && b != 0 ? 1 : 0;
                case LESS -> a < b ? 1 : 0;
                case MORE -> a > b ? 1 : 0;
                case SAME -> a == b ? 1 : 0;
                case PLUS -> a + b;
                case MINUS -> a - b;
                case TIMES -> a * b;
                case SHARE -> b == 0 ? 0 : a / b;
                default -> b == 0 ? 0 : a % b;
            };
        }
    }

    /** Parts the tape into tokens, one at a time. */
    private static final class Lexer {
        static final int END = 0;
        static final int WORD = 1;
        static final int NUMBER = 2;
        static final int SIGN = 3;
        static final int BAD = 4;

        // the words that stand for themselves, numbered by the constants of the Parser
        private static final String WORDS = "lanes rows slope lies wall room guest tips falls wind draw snow steep noise below hour row left right lane bears rate from to or and not ";
        private static final int WORD_COUNT = 27;
        private static final String SIGNS = ";()<>=+-*/%";
        private static final int MAX_LETTERS = 8;
        private static final int LETTERS = 27;
        private static final int MAX_DIGITS = 4;

        private byte[] text = new byte[0];
        private final long[] words = new long[WORD_COUNT];
        private int length;
        private int at;
        int kind;
        int place;
        /** A number's worth, a sign's byte, the number of a word that stands for itself or NONE. */
        int value;
        /** A word's letters in one number, so that words are told apart without making texts. */
        long letters;

        Lexer() {
            int word = 0;
            for (int i = 0; i < WORDS.length() && word < WORD_COUNT; i++) {
                if (WORDS.charAt(i) == ' ') {
                    word++;
                } else {
                    words[word] = words[word] * LETTERS + (WORDS.charAt(i) - 'a' + 1);
                }
            }
        }

        void open(byte[] tape, int bytes) {
            text = tape;
            length = Math.min(bytes, tape.length);
            at = 0;
            advance();
        }

        void advance() {
            while (at < length && (text[at] == ' ' || text[at] == '\n')) {
                at++;
            }
            place = at;
            if (at >= length) {
                kind = END;
            } else if (text[at] >= 'a' && text[at] <= 'z') {
                scanWord();
            } else if (text[at] >= '0' && text[at] <= '9') {
                scanNumber();
            } else {
                value = text[at] & 255;
                kind = SIGNS.indexOf((char) value) >= 0 ? SIGN : BAD;
                at++;
            }
        }

        private void scanWord() {
            letters = 0;
            for (; at < length && text[at] >= 'a' && text[at] <= 'z'; at++) {
                if (at - place < MAX_LETTERS) {
                    letters = letters * LETTERS + (text[at] - 'a' + 1);
                }
            }
            kind = at - place > MAX_LETTERS ? BAD : WORD;
            value = NONE;
            for (int i = 0; i < WORD_COUNT; i++) {
                if (words[i] == letters) {
                    value = i;
                }
            }
        }

        private void scanNumber() {
            value = 0;
            for (; at < length && text[at] >= '0' && text[at] <= '9'; at++) {
                if (at - place < MAX_DIGITS) {
                    value = value * 10 + (text[at] - '0');
                }
            }
            boolean letterBehind = at < length && text[at] >= 'a' && text[at] <= 'z';
            kind = at - place > MAX_DIGITS || letterBehind ? BAD : NUMBER;
        }
    }

    /** Reads a tape as a pass, up to its first fault. */
    private static final class Parser {
        private static final int LANES = 0;
        private static final int ROWS = 1;
        private static final int SLOPE = 2;
        private static final int LIES = 3;
        private static final int WALL = 4;
        private static final int ROOM = 5;
        private static final int GUEST = 6;
        private static final int TIPS = 7;
        private static final int FALLS = 8;
        private static final int WIND = 9;
        private static final int DRAW = 10;
        // the six facts of a formula, in its order, begin at snow
        private static final int SNOW = 11;
        private static final int STEEP = 12;
        private static final int NOISE = 13;
        private static final int LEFT = 17;
        private static final int RIGHT = 18;
        private static final int LANE = 19;
        private static final int BEARS = 20;
        private static final int RATE = 21;
        private static final int FROM = 22;
        private static final int TO = 23;
        private static final int OR = 24;
        private static final int AND = 25;
        private static final int NOT = 26;

        private static final int NO_TOKEN = 1;
        private static final int MISPLACED = 2;
        private static final int TOLD_ALREADY = 3;
        private static final int BAD_NUMBER = 4;
        private static final int NO_ROOM = 5;

        // how the parts of a formula hold one another, from the widest to the narrowest
        private static final int EITHER = 0;
        private static final int BOTH = 1;
        private static final int ONE = 2;
        private static final int SUM = 3;
        private static final int UNIT = 5;

        private final Lexer lexer = new Lexer();
        private final long[] roomNames = new long[MAX_ROOMS];
        private final long[] guestNames = new long[MAX_GUESTS];
        private Pass pass;
        private int linesTold;
        private int slopesTold;
        private int liesTold;
        private int wallsTold;
        private int value;
        int faultKind;
        int faultPlace = NONE;

        Parser(Pass pass) {
            this.pass = pass;
        }

        /** Whether the tape's bytes are a pass, which is then told to the one given. */
        boolean readTape(Pass into, byte[] tape, int bytes) {
            begin(into);
            lexer.open(tape, bytes);
            boolean fine = true;
            for (int i = 0; i <= MAX_BYTES && fine && lexer.kind != Lexer.END; i++) {
                int word = lexer.value;
                if (mayStand(word)) {
                    linesTold |= 1 << word;
                    lexer.advance();
                    fine = readRest(word) && takeSign(';');
                } else {
                    fine = refuseToken();
                }
            }
            return fine;
        }

        private void begin(Pass into) {
            pass = into;
            pass.setEmpty();
            linesTold = 0;
            slopesTold = 0;
            liesTold = 0;
            wallsTold = 0;
            faultKind = 0;
            faultPlace = NONE;
        }

        private boolean fail(int kind, int place) {
            faultKind = kind;
            faultPlace = place;
            return false;
        }

        private boolean refuseToken() {
            return fail(lexer.kind == Lexer.BAD ? NO_TOKEN : MISPLACED, lexer.place);
        }

        private boolean isWord(int word) {
            return lexer.kind == Lexer.WORD && lexer.value == word;
        }

        private boolean takeWord(int word) {
            if (!isWord(word)) {
                return refuseToken();
            }
            lexer.advance();
            return true;
        }

        private boolean takeNumber(int least, int most) {
            if (lexer.kind != Lexer.NUMBER) {
                return refuseToken();
            }
            if (lexer.value < least || lexer.value > most) {
                return fail(BAD_NUMBER, lexer.place);
            }
            value = lexer.value;
            lexer.advance();
            return true;
        }

        private boolean takeSign(char sign) {
            if (lexer.kind != Lexer.SIGN || lexer.value != sign) {
                return refuseToken();
            }
            lexer.advance();
            return true;
        }

        /** Whether a line may begin with the token, a word of this number. */
        private boolean mayStand(int word) {
            if (lexer.kind != Lexer.WORD || word < LANES || word > DRAW) {
                return false;
            }
            int sized = 1 << SLOPE | 1 << LIES | 1 << WALL | 1 << ROOM;
            boolean once = (linesTold >> word & 1) == 0;
            return switch (word) {
                case LANES, ROWS -> once && (linesTold & sized) == 0;
                case ROOM -> pass.rooms < MAX_ROOMS;
                case GUEST -> pass.guests < MAX_GUESTS;
                case TIPS, FALLS, WIND, DRAW -> once;
                default -> true;
            };
        }

        private boolean readRest(int word) {
            switch (word) {
                case SLOPE:
                    return readSlope();
                case LIES:
                    return readLies();
                case WALL:
                    return readWall();
                case ROOM:
                    return readRoom();
                case GUEST:
                    return readGuest();
                case TIPS:
                    pass.tips.empty();
                    return readPart(EITHER, 0);
                default:
                    return readSetting(word);
            }
        }

        private boolean readSetting(int word) {
            boolean fine = switch (word) {
                case LANES -> takeNumber(1, MAX_LANES);
                case ROWS -> takeNumber(1, MAX_ROWS);
                case FALLS -> takeNumber(0, 9);
                case WIND -> takeNumber(0, 100);
                default -> takeNumber(0, 999);
            };
            if (!fine) {
                return false;
            }
            switch (word) {
                case LANES -> pass.lanes = value;
                case ROWS -> pass.rows = value;
                case FALLS -> pass.falls = value;
                case WIND -> pass.wind = value;
                default -> pass.first.seed = value;
            }
            return true;
        }

        private boolean readSlope() {
            int place = lexer.place;
            if (!takeNumber(0, pass.rows - 1)) {
                return false;
            }
            int row = value;
            if ((slopesTold >> row & 1) != 0) {
                return fail(TOLD_ALREADY, place);
            }
            slopesTold |= 1 << row;
            if (!takeWord(STEEP) || !takeNumber(0, 9)) {
                return false;
            }
            pass.steep[row] = value;
            return true;
        }

        /** The value is the cell then; not one of those told already. */
        private boolean takeCell(int toldAlready) {
            if (!takeNumber(0, pass.lanes - 1)) {
                return false;
            }
            int lane = value;
            int place = lexer.place;
            if (!takeNumber(0, pass.rows - 1)) {
                return false;
            }
            value = cellAt(lane, value);
            return (toldAlready >> value & 1) == 0 || fail(TOLD_ALREADY, place);
        }

        private boolean readLies() {
            if (!takeCell(liesTold)) {
                return false;
            }
            int cell = value;
            liesTold |= 1 << cell;
            if (!takeWord(SNOW) || !takeNumber(0, 30)) {
                return false;
            }
            pass.first.snow[cell] = value;
            return true;
        }

        private boolean readWall() {
            if (!takeCell(wallsTold)) {
                return false;
            }
            int cell = value;
            wallsTold |= 1 << cell;
            if (!isWord(LEFT) && !isWord(RIGHT)) {
                return refuseToken();
            }
            pass.first.walls[cell] = isWord(LEFT) ? LEFT_WALL : RIGHT_WALL;
            lexer.advance();
            return true;
        }

        private boolean isName() {
            return lexer.kind == Lexer.WORD && lexer.value == NONE;
        }

        private int numberOfName(long[] names, int count) {
            for (int i = 0; i < count && i < names.length; i++) {
                if (names[i] == lexer.letters) {
                    return i;
                }
            }
            return NONE;
        }

        private boolean takeNewName(long[] names, int count) {
            if (!isName() || count < 0 || count >= names.length) {
                return refuseToken();
            }
            if (numberOfName(names, count) != NONE) {
                return fail(TOLD_ALREADY, lexer.place);
            }
            names[count] = lexer.letters;
            lexer.advance();
            return true;
        }

        private boolean readRoom() {
            int room = pass.rooms;
            if (!takeNewName(roomNames, room) || !takeWord(LANE) || !takeNumber(0, pass.lanes - 1)) {
                return false;
            }
            pass.first.lanes[room] = value;
            if (!takeWord(BEARS) || !takeNumber(0, 99)) {
                return false;
            }
            pass.bears[room] = value;
            pass.rates[room] = 1;
            pass.rooms = room + 1;
            if (!isWord(RATE)) {
                return true;
            }
            if (!takeWord(RATE) || !takeNumber(0, 20)) {
                return false;
            }
            pass.rates[room] = value;
            return true;
        }

        private boolean readGuest() {
            int guest = pass.guests;
            if (!takeNewName(guestNames, guest) || !takeWord(ROOM) || !takeRoomOf(guest)) {
                return false;
            }
            if (!takeWord(NOISE) || !takeNumber(0, 30)) {
                return false;
            }
            pass.guestNoises[guest] = value;
            if (!takeWord(FROM) || !takeNumber(0, DAY - 1)) {
                return false;
            }
            pass.guestFroms[guest] = value;
            if (!takeWord(TO) || !takeNumber(value, DAY - 1)) {
                return false;
            }
            pass.guestTos[guest] = value;
            pass.guests = guest + 1;
            return true;
        }

        private boolean takeRoomOf(int guest) {
            if (!isName()) {
                return refuseToken();
            }
            int room = numberOfName(roomNames, pass.rooms);
            if (room == NONE) {
                return fail(NO_ROOM, lexer.place);
            }
            pass.guestRooms[guest] = room;
            lexer.advance();
            return true;
        }

        /** An e, or a part of it down to a unit; within so many units ( e ) and ones behind a not. */
        private boolean readPart(int part, int within) {
            if (part == UNIT) {
                return readUnit(within);
            }
            if (part == ONE && isWord(NOT)) {
                if (within > Formula.MAX_WITHIN) {
                    return refuseToken();
                }
                lexer.advance();
                if (!readPart(ONE, within + 1)) {
                    return false;
                }
                pass.tips.add(Formula.NOT, 0);
                return true;
            }
            boolean fine = readPart(part + 1, within);
            int join = joinOf(part);
            for (int i = 0; i < Formula.MAX_UNITS && fine && join != NONE; i++) {
                lexer.advance();
                fine = readPart(part + 1, within);
                pass.tips.add(join, 0);
                join = part == ONE ? NONE : joinOf(part);
            }
            return fine;
        }

        /** What the token joins within such a part; NONE if it joins nothing there. */
        private int joinOf(int part) {
            if (part == EITHER) {
                return isWord(OR) ? Formula.OR : NONE;
            }
            if (part == BOTH) {
                return isWord(AND) ? Formula.AND : NONE;
            }
            int kind = lexer.kind == Lexer.SIGN ? joinOfSign(lexer.value) : NONE;
            int least = part == ONE ? Formula.LESS : part == SUM ? Formula.PLUS : Formula.TIMES;
            int most = part == ONE ? Formula.SAME : part == SUM ? Formula.MINUS : Formula.REST;
            return kind >= least && kind <= most ? kind : NONE;
        }

        private static int joinOfSign(int sign) {
            return switch (sign) {
                case '<' -> Formula.LESS;
                case '>' -> Formula.MORE;
                case '=' -> Formula.SAME;
                case '+' -> Formula.PLUS;
                case '-' -> Formula.MINUS;
                case '*' -> Formula.TIMES;
                case '/' -> Formula.SHARE;
                case '%' -> Formula.REST;
                default -> NONE;
            };
        }

        private boolean readUnit(int within) {
            boolean opens = lexer.kind == Lexer.SIGN && lexer.value == '(';
            int fact = lexer.kind == Lexer.WORD ? lexer.value - SNOW : NONE;
            boolean named = fact >= 0 && fact < Formula.FACTS;
            boolean begins = opens || named || lexer.kind == Lexer.NUMBER;
            if (!begins || pass.tips.units >= Formula.MAX_UNITS || opens && within > Formula.MAX_WITHIN) {
                return refuseToken();
            }
            pass.tips.units++;
            if (!opens) {
                pass.tips.add(named ? Formula.FACT : Formula.NUMBER, named ? fact : lexer.value);
            }
            lexer.advance();
            return !opens || readPart(EITHER, within + 1) && takeSign(')');
        }
    }

    /** The present and what can be undone and redone, in a ring: an act goes on from a copy. */
    private static final class Journal {
        private final State[] ring = new State[MAX_ACTS + 1];
        private int at;
        int undoable;
        int redoable;

        Journal() {
            for (int i = 0; i < ring.length; i++) {
                ring[i] = new State();
            }
        }

        State current() {
            return ring[at];
        }

        State beginAct() {
            State before = ring[at];
            at = at == MAX_ACTS ? 0 : at + 1;
            ring[at].copyFrom(before);
            undoable = Math.min(MAX_ACTS, undoable + 1);
            redoable = 0;
            return ring[at];
        }

        boolean stepBack() {
            if (undoable == 0) {
                return false;
            }
            at = at == 0 ? MAX_ACTS : at - 1;
            undoable--;
            redoable++;
            return true;
        }

        boolean stepOn() {
            if (redoable == 0) {
                return false;
            }
            at = at == MAX_ACTS ? 0 : at + 1;
            undoable++;
            redoable--;
            return true;
        }

        void restart(State from) {
            ring[at].copyFrom(from);
            undoable = 0;
            redoable = 0;
        }
    }

    /** Snow, slides and rooms as they go on, on the state of an act or on one that is only supposed. */
    private static final class Hill {
        static final int SEEDS = 1000;
        static final int DRIFT = 3;

        private final State supposed = new State();
        private final int[] facts = new int[Formula.FACTS];
        private Pass pass;
        State state = supposed;
        /** The noise of each lane at hand; to be heard anew when something of it changes. */
        final int[] noises = new int[MAX_LANES];
        /** All loads on each lane since the state was taken up, and the heaviest of them. */
        final int[] brunts = new int[MAX_LANES];
        final int[] heaviest = new int[MAX_LANES];
        int tipped;
        int endLane;
        int endLoad;

        Hill(Pass pass) {
            this.pass = pass;
        }

        void suppose(Pass by, State from) {
            supposed.copyFrom(from);
            actOn(by, supposed);
        }

        void actOn(Pass by, State on) {
            pass = by;
            state = on;
            tipped = 0;
            Arrays.fill(brunts, 0);
            Arrays.fill(heaviest, 0);
            hearNoises();
        }

        void hearNoises() {
            Arrays.fill(noises, 0);
            int awake = pass.awakeAt(state, state.hour % DAY);
            for (int guest = 0; guest < pass.guests; guest++) {
                if ((awake >> guest & 1) != 0) {
                    noises[state.lanes[pass.guestRooms[guest]]] += pass.guestNoises[guest];
                }
            }
        }

        boolean wouldTip(int lane, int row, int loud) {
            int cell = cellAt(lane, row);
            int snow = state.snow[cell];
            if (snow == 0) {
                return false;
            }
            facts[Formula.SNOW] = snow;
            facts[Formula.STEEP] = pass.steep[row];
            facts[Formula.NOISE] = noises[lane] + loud;
            facts[Formula.BELOW] = row + 1 < pass.rows ? state.snow[cell + 1] : 0;
            facts[Formula.HOUR] = state.hour;
            facts[Formula.ROW] = row;
            return pass.tips.worth(facts) > 0;
        }

        /** Where a slide from a cell would come to, and with how much; nothing moves. */
        void goDown(int lane, int row) {
            follow(lane, row, false);
        }

        private void follow(int lane, int row, boolean takes) {
            endLane = lane;
            endLoad = 0;
            gather(cellAt(lane, row), takes);
            for (int below = row + 1; below < pass.rows && endLane != NONE; below++) {
                int wall = state.walls[cellAt(endLane, below)];
                if (wall == LEFT_WALL) {
                    endLane--;
                } else if (wall == RIGHT_WALL) {
                    endLane++;
                }
                if (pass.hasLane(endLane)) {
                    gather(cellAt(endLane, below), takes);
                } else {
                    endLane = NONE;
                    endLoad = 0;
                }
            }
        }

        private void gather(int cell, boolean takes) {
            endLoad += state.snow[cell];
            if (takes) {
                state.snow[cell] = 0;
            }
        }

        private void slide(int lane, int row) {
            tipped++;
            follow(lane, row, true);
            if (endLane == NONE) {
                return;
            }
            brunts[endLane] += endLoad;
            heaviest[endLane] = Math.max(heaviest[endLane], endLoad);
            int before = state.gone;
            for (int room = 0; room < pass.rooms; room++) {
                if (state.lanes[room] == endLane && pass.bears[room] < endLoad) {
                    state.gone |= 1 << room;
                }
            }
            if (state.gone != before) {
                hearNoises();
            }
        }

        void passHour(int falls, boolean windy) {
            for (int lane = 0; lane < pass.lanes; lane++) {
                for (int row = 0; row < pass.rows; row++) {
                    addSnow(cellAt(lane, row), falls);
                }
            }
            state.seed = (state.seed * 137 + 71) % SEEDS;
            if (windy && state.seed % 100 < pass.wind && pass.lanes > 0) {
                addSnow(cellAt(state.seed % pass.lanes, 0), DRIFT);
            }
            hearNoises();
            for (int row = 0; row < pass.rows; row++) {
                for (int lane = 0; lane < pass.lanes; lane++) {
                    if (wouldTip(lane, row, 0)) {
                        slide(lane, row);
                    }
                }
            }
            state.purse += standingRates();
            state.hour++;
        }

        void passHours(int n, int falls, boolean windy) {
            for (int i = 0; i < n; i++) {
                passHour(falls, windy);
            }
        }

        private void addSnow(int cell, int more) {
            state.snow[cell] = Math.min(MAX_SNOW, state.snow[cell] + more);
        }

        void shoutIn(int lane, int loud) {
            for (int row = 0; row < pass.rows; row++) {
                if (wouldTip(lane, row, loud)) {
                    slide(lane, row);
                }
            }
        }

        int standingRates() {
            return ratesOf(~state.gone);
        }

        int ratesOf(int rooms) {
            int sum = 0;
            for (int room = 0; room < pass.rooms; room++) {
                if ((rooms >> room & 1) != 0) {
                    sum += pass.rates[room];
                }
            }
            return sum;
        }
    }

    /** Finds what would be best, by trying it on a supposed hill. */
    private static final class Planner {
        // all ways to place the rooms there can be
        private static final int MAX_TRIALS = 7776;

        private final Hill hill;
        private Pass pass;
        private State now;
        final int[] bestLanes = new int[MAX_ROOMS];
        private final int[] trialLanes = new int[MAX_ROOMS];
        private final int[] gains = new int[8];
        int bestLane;
        int bestRow;
        int bestSide;
        int bestLeft;
        int firstRest;

        Planner(Hill hill, Pass pass) {
            this.hill = hill;
            this.pass = pass;
            now = pass.first;
        }

        private void takeUp(Pass by, State from) {
            pass = by;
            now = from;
            hill.suppose(by, from);
        }

        /** The most that can be left; the best lanes are told then. */
        int findPlaces(Pass by, State from, int n) {
            takeUp(by, from);
            int standing = (1 << pass.rooms) - 1 & ~now.gone;
            int loud = standing & noisyRooms();
            int still = standing & ~loud;
            int all = hill.ratesOf(standing);
            bestLeft = NONE;
            System.arraycopy(now.lanes, 0, trialLanes, 0, MAX_ROOMS);
            layFirst(standing);
            boolean more = true;
            for (int i = 0; i < MAX_TRIALS && more; i++) {
                int left = tryPlaces(loud, still, n);
                if (left > bestLeft || left == bestLeft && comesFirst()) {
                    bestLeft = left;
                    System.arraycopy(trialLanes, 0, bestLanes, 0, MAX_ROOMS);
                }
                // later trials differ in loud rooms alone to the worse, unless a still one could come to a lesser lane
                more = (left < all || !allFirst(still)) && nextLanes(loud);
            }
            return bestLeft;
        }

        /** Rooms by whose guests the lane they are in can matter to the snow. */
        private int noisyRooms() {
            int rooms = 0;
            for (int guest = 0; guest < pass.guests && pass.tips.heedsNoise; guest++) {
                if (!now.isHushed(guest) && pass.guestNoises[guest] > 0) {
                    rooms |= 1 << pass.guestRooms[guest];
                }
            }
            return rooms;
        }

        private void layFirst(int rooms) {
            for (int room = 0; room < pass.rooms; room++) {
                if ((rooms >> room & 1) != 0) {
                    trialLanes[room] = 0;
                }
            }
        }

        private boolean allFirst(int rooms) {
            for (int room = 0; room < pass.rooms; room++) {
                if ((rooms >> room & 1) != 0 && trialLanes[room] != 0) {
                    return false;
                }
            }
            return true;
        }

        /** The next lanes of these rooms, the last room's changing soonest; false behind the last ones. */
        private boolean nextLanes(int rooms) {
            for (int room = pass.rooms - 1; room >= 0; room--) {
                if ((rooms >> room & 1) != 0) {
                    if (trialLanes[room] + 1 < pass.lanes) {
                        trialLanes[room]++;
                        return true;
                    }
                    trialLanes[room] = 0;
                }
            }
            return false;
        }

        /**
         * What is left with loud rooms in the lanes of the trial, and still ones in the best lanes for that. As still
         * rooms change nothing on the hill, they are left out of the run and placed by the loads that came in it.
         */
        private int tryPlaces(int loud, int still, int n) {
            hill.suppose(pass, now);
            System.arraycopy(trialLanes, 0, hill.state.lanes, 0, MAX_ROOMS);
            hill.state.gone |= still;
            int bound = hill.ratesOf(still);
            for (int i = 0; i < n; i++) {
                int hope = bound + hill.standingRates();
                if (hope < bestLeft || hope == bestLeft && still == 0) {
                    return NONE;
                }
                hill.passHour(pass.falls, false);
            }
            int left = hill.ratesOf(loud & ~hill.state.gone);
            for (int room = 0; room < pass.rooms; room++) {
                if ((still >> room & 1) != 0) {
                    left += placeStill(room);
                }
            }
            return left;
        }

        /** Puts a still room into the first lane that leaves it, or the first of all; what it brings there. */
        private int placeStill(int room) {
            trialLanes[room] = 0;
            if (pass.rates[room] == 0) {
                return 0;
            }
            for (int lane = 0; lane < pass.lanes; lane++) {
                if (hill.heaviest[lane] <= pass.bears[room]) {
                    trialLanes[room] = lane;
                    return pass.rates[room];
                }
            }
            return 0;
        }

        private boolean comesFirst() {
            for (int room = 0; room < pass.rooms; room++) {
                if (trialLanes[room] != bestLanes[room]) {
                    return trialLanes[room] < bestLanes[room];
                }
            }
            return false;
        }

        /** The guests to be hushed, as bits; NONE if it helps to hush none of them. */
        int findHush(Pass by, State from, int n) {
            takeUp(by, from);
            int sets = 1 << pass.guests;
            for (int size = 0; size <= pass.guests; size++) {
                for (int set = 0; set < sets; set++) {
                    if (Integer.bitCount(set) == size && (set & now.hushed) == 0 && allStay(now.hushed | set, n)) {
                        return set;
                    }
                }
            }
            return NONE;
        }

        private boolean allStay(int hushed, int n) {
            hill.suppose(pass, now);
            hill.state.hushed = hushed;
            for (int i = 0; i < n && hill.state.gone == now.gone; i++) {
                hill.passHour(pass.falls, false);
            }
            return hill.state.gone == now.gone;
        }

        /** Whether one wall more would leave more; the cell, the side and what is left are told then. */
        boolean findDam(Pass by, State from, int n) {
            takeUp(by, from);
            int all = hill.standingRates();
            int without = leftBehind(n);
            bestLeft = without;
            for (int lane = 0; lane < pass.lanes; lane++) {
                for (int row = 0; row < pass.rows && bestLeft < all; row++) {
                    for (int side = LEFT_WALL; side <= RIGHT_WALL; side++) {
                        tryWall(lane, row, side, n);
                    }
                }
            }
            return bestLeft > without;
        }

        private void tryWall(int lane, int row, int side, int n) {
            int cell = cellAt(lane, row);
            if (now.walls[cell] != NO_WALL) {
                return;
            }
            hill.suppose(pass, now);
            hill.state.walls[cell] = side;
            if (keepIfBest(lane, row, leftBehind(n))) {
                bestSide = side;
            }
        }

        /** The cell to be shovelled and what is left are told then. */
        void findShovel(Pass by, State from, int n) {
            takeUp(by, from);
            int all = hill.standingRates();
            bestLeft = NONE;
            for (int lane = 0; lane < pass.lanes; lane++) {
                for (int row = 0; row < pass.rows && bestLeft < all; row++) {
                    hill.suppose(pass, now);
                    hill.state.snow[cellAt(lane, row)] = 0;
                    keepIfBest(lane, row, leftBehind(n));
                }
            }
        }

        private int leftBehind(int n) {
            for (int i = 0; i < n; i++) {
                hill.passHour(pass.falls, false);
            }
            return hill.standingRates();
        }

        private boolean keepIfBest(int lane, int row, int left) {
            if (left <= bestLeft) {
                return false;
            }
            bestLane = lane;
            bestRow = row;
            bestLeft = left;
            return true;
        }

        /** How many ways rest; the first of them is told then, as bits: the first guest's, the other one's. */
        int findRests(Pass by, State from, int guest, int other) {
            takeUp(by, from);
            for (int way = 0; way < 4; way++) {
                tryDuel(guest, other, way);
            }
            int rests = 0;
            for (int way = 3; way >= 0; way--) {
                boolean firstStays = gains[way * 2] >= gains[(way ^ 2) * 2];
                boolean otherStays = gains[way * 2 + 1] >= gains[(way ^ 1) * 2 + 1];
                if (firstStays && otherStays) {
                    rests++;
                    firstRest = way;
                }
            }
            return rests;
        }

        private void tryDuel(int guest, int other, int way) {
            hill.suppose(pass, now);
            int hushed = now.hushed | 1 << guest | 1 << other;
            if ((way & 2) != 0) {
                hushed &= ~(1 << guest);
            }
            if ((way & 1) != 0) {
                hushed &= ~(1 << other);
            }
            hill.state.hushed = hushed;
            hill.passHours(DUEL_HOURS, pass.falls, false);
            gains[way * 2] = gainOf(guest);
            gains[way * 2 + 1] = gainOf(other);
        }

        private int gainOf(int guest) {
            int room = pass.guestRooms[guest];
            int gain = hill.state.isHushed(guest) ? 0 : pass.guestNoises[guest];
            boolean lost = !now.isGone(room) && hill.state.isGone(room);
            return lost ? gain - DUEL_LOSS : gain;
        }
    }

    /** What is seen, told at one time and untold at another, and what fits it. */
    private static final class Memory {
        private static final int TOPS = MAX_TOP + 1;
        private static final int HOURS = NEAR + 1;

        private final int[] hours = new int[MAX_SEEN];
        private final int[] rooms = new int[MAX_SEEN];
        private final boolean[] wasGone = new boolean[MAX_SEEN];
        private final int[] toldAt = new int[MAX_SEEN];
        private final int[] untoldAt = new int[MAX_SEEN];
        /** The rooms gone behind each hour, by how much lay at the top; worked out once for a pass. */
        private final int[] goneBy = new int[TOPS * HOURS];
        private boolean workedOut;
        int count;
        int time;
        int fitting;
        int questionHours;
        int questionLeft;

        void forget() {
            count = 0;
            workedOut = false;
        }

        int tell(int behind, int room, boolean is) {
            if (count >= MAX_SEEN) {
                return NONE;
            }
            hours[count] = behind;
            rooms[count] = room;
            wasGone[count] = is;
            toldAt[count] = time;
            untoldAt[count] = NONE;
            count++;
            return count - 1;
        }

        boolean takeBack(int number) {
            if (number < 0 || number >= count || untoldAt[number] != NONE) {
                return false;
            }
            untoldAt[number] = time;
            return true;
        }

        /** How many tops fit as known at a time; which, is told then as bits. */
        int findFitting(Hill hill, Pass pass, int known) {
            if (!workedOut) {
                workOut(hill, pass);
            }
            fitting = 0;
            for (int top = 0; top < TOPS; top++) {
                if (allSo(top, known)) {
                    fitting |= 1 << top;
                }
            }
            return Integer.bitCount(fitting);
        }

        private void workOut(Hill hill, Pass pass) {
            for (int top = 0; top < TOPS; top++) {
                hill.suppose(pass, pass.first);
                if (pass.lanes > 0) {
                    hill.state.snow[cellAt(pass.lanes - 1, 0)] = top;
                }
                goneBy[top * HOURS] = hill.state.gone;
                for (int hour = 1; hour < HOURS; hour++) {
                    hill.passHour(pass.falls, false);
                    goneBy[top * HOURS + hour] = hill.state.gone;
                }
            }
            workedOut = true;
        }

        private boolean allSo(int top, int known) {
            for (int i = 0; i < count; i++) {
                boolean counts = toldAt[i] <= known && (untoldAt[i] == NONE || untoldAt[i] > known);
                boolean gone = (goneBy[top * HOURS + hours[i]] >> rooms[i] & 1) != 0;
                if (counts && gone != wasGone[i]) {
                    return false;
                }
            }
            return true;
        }

        /** The hours behind which to look, by the tops that fit; what is left at the most is told, too. */
        void findQuestion() {
            questionLeft = TOPS + 1;
            for (int hour = 0; hour < HOURS; hour++) {
                int left = mostAlike(hour);
                if (left < questionLeft) {
                    questionLeft = left;
                    questionHours = hour;
                }
            }
        }

        private int mostAlike(int hour) {
            int most = 0;
            for (int top = 0; top < TOPS; top++) {
                int alike = 0;
                for (int other = 0; other < TOPS && (fitting >> top & 1) != 0; other++) {
                    boolean same = goneBy[top * HOURS + hour] == goneBy[other * HOURS + hour];
                    alike += same ? fitting >> other & 1 : 0;
                }
                most = Math.max(most, alike);
            }
            return most;
        }
    }
}
