import java.math.BigInteger;
import java.nio.charset.StandardCharsets;
import java.util.ArrayDeque;
import java.util.ArrayList;
import java.util.Deque;
import java.util.HashMap;
import java.util.HashSet;
import java.util.List;
import java.util.Map;
import java.util.Set;

/**
 * The document once more, as plainly as can be and by other means than the class (trees, copies, maps, exceptions),
 * so that the two can be held against each other.
 */
final class PlainModel {
    // ---- what is told

    interface Node {
        int worth(Map<String, Integer> by);
    }

    static final class Fault extends RuntimeException {
        private static final long serialVersionUID = 1L;
        final int kind;
        final int place;

        Fault(int kind, int place) {
            this.kind = kind;
            this.place = place;
        }
    }

    static final class Told {
        int lanes = 4;
        int rows = 3;
        int[] steep = {3, 3, 3, 3, 3};
        List<String> roomNames = new ArrayList<>();
        List<int[]> rooms = new ArrayList<>(); // lane, bears, rate
        List<String> guestNames = new ArrayList<>();
        List<int[]> guests = new ArrayList<>(); // room, noise, from, to
        int[][] snow = new int[6][5];
        int[][] walls = new int[6][5];
        Node tips = by -> by.get("snow") * by.get("steep") + by.get("noise") - 40;
        int units;
        int falls = 1;
        int wind;
        int draw;
    }

    record Token(char sort, String text, int place) {
    }

    static final class Reader {
        static final Set<String> OWN = Set.of("lanes", "rows", "slope", "steep", "lies", "snow", "wall", "left", "right",
                "room", "lane", "bears", "rate", "guest", "noise", "from", "to", "tips", "falls", "wind", "draw", "or",
                "and", "not", "below", "hour", "row");
        final List<Token> tokens = new ArrayList<>();
        final Told told = new Told();
        int at;

        Reader(String text) {
            int i = 0;
            while (i < text.length()) {
                char c = text.charAt(i);
                int start = i;
                if (c == ' ' || c == '\n') {
                    i++;
                    continue;
                }
                char sort = 's';
                if (c >= 'a' && c <= 'z') {
                    while (i < text.length() && text.charAt(i) >= 'a' && text.charAt(i) <= 'z') {
                        i++;
                    }
                    sort = i - start <= 8 ? 'w' : '?';
                } else if (c >= '0' && c <= '9') {
                    while (i < text.length() && text.charAt(i) >= '0' && text.charAt(i) <= '9') {
                        i++;
                    }
                    boolean letter = i < text.length() && text.charAt(i) >= 'a' && text.charAt(i) <= 'z';
                    sort = i - start <= 4 && !letter ? 'n' : '?';
                } else {
                    i++;
                    sort = ";()<>=+-*/%".indexOf(c) >= 0 ? 's' : '?';
                }
                tokens.add(new Token(sort, text.substring(start, i), start));
            }
            tokens.add(new Token('$', "", text.length()));
        }

        Token see() {
            return tokens.get(at);
        }

        boolean is(String text) {
            return see().text.equals(text) && see().sort != '$' && see().sort != '?';
        }

        Fault wrong() {
            return new Fault(see().sort == '?' ? 1 : 2, see().place);
        }

        void eat(String text) {
            if (!is(text)) {
                throw wrong();
            }
            at++;
        }

        int number(int least, int most) {
            if (see().sort != 'n') {
                throw wrong();
            }
            int value = Integer.parseInt(see().text);
            if (value < least || value > most) {
                throw new Fault(4, see().place);
            }
            at++;
            return value;
        }

        String name() {
            if (see().sort != 'w' || OWN.contains(see().text)) {
                throw wrong();
            }
            return tokens.get(at++).text;
        }

        Told read() {
            Set<String> once = new HashSet<>();
            Set<String> cells = new HashSet<>();
            while (see().sort != '$') {
                String word = see().sort == 'w' ? see().text : "";
                switch (word) {
                    case "lanes", "rows" -> {
                        boolean late = once.contains("slope") || once.contains("lies") || once.contains("wall")
                                || once.contains("room");
                        if (late || once.contains(word)) {
                            throw wrong();
                        }
                    }
                    case "tips", "falls", "wind", "draw" -> {
                        if (once.contains(word)) {
                            throw wrong();
                        }
                    }
                    case "room" -> {
                        if (told.rooms.size() == 5) {
                            throw wrong();
                        }
                    }
                    case "guest" -> {
                        if (told.guests.size() == 6) {
                            throw wrong();
                        }
                    }
                    case "slope", "lies", "wall" -> {
                    }
                    default -> throw wrong();
                }
                once.add(word);
                at++;
                line(word, cells);
                eat(";");
            }
            return told;
        }

        void line(String word, Set<String> cells) {
            switch (word) {
                case "lanes" -> told.lanes = number(1, 6);
                case "rows" -> told.rows = number(1, 5);
                case "falls" -> told.falls = number(0, 9);
                case "wind" -> told.wind = number(0, 100);
                case "draw" -> told.draw = number(0, 999);
                case "tips" -> told.tips = either(0);
                case "slope" -> {
                    int place = see().place;
                    int row = number(0, told.rows - 1);
                    if (!cells.add("slope " + row)) {
                        throw new Fault(3, place);
                    }
                    eat("steep");
                    told.steep[row] = number(0, 9);
                }
                case "lies", "wall" -> {
                    int lane = number(0, told.lanes - 1);
                    int place = see().place;
                    int row = number(0, told.rows - 1);
                    if (!cells.add(word + " " + lane + " " + row)) {
                        throw new Fault(3, place);
                    }
                    if (word.equals("lies")) {
                        eat("snow");
                        told.snow[lane][row] = number(0, 30);
                    } else if (is("left")) {
                        told.walls[lane][row] = 1;
                        at++;
                    } else {
                        eat("right");
                        told.walls[lane][row] = 2;
                    }
                }
                case "room" -> {
                    int place = see().place;
                    String name = name();
                    if (told.roomNames.contains(name)) {
                        throw new Fault(3, place);
                    }
                    eat("lane");
                    int lane = number(0, told.lanes - 1);
                    eat("bears");
                    int bears = number(0, 99);
                    int rate = 1;
                    if (is("rate")) {
                        at++;
                        rate = number(0, 20);
                    }
                    told.roomNames.add(name);
                    told.rooms.add(new int[] {lane, bears, rate});
                }
                case "guest" -> {
                    int place = see().place;
                    String name = name();
                    if (told.guestNames.contains(name)) {
                        throw new Fault(3, place);
                    }
                    eat("room");
                    place = see().place;
                    int room = told.roomNames.indexOf(name());
                    if (room < 0) {
                        throw new Fault(5, place);
                    }
                    eat("noise");
                    int noise = number(0, 30);
                    eat("from");
                    int from = number(0, 47);
                    eat("to");
                    int to = number(from, 47);
                    told.guestNames.add(name);
                    told.guests.add(new int[] {room, noise, from, to});
                }
                default -> throw new IllegalStateException(word);
            }
        }

        static int bit(boolean is) {
            return is ? 1 : 0;
        }

        Node either(int within) {
            Node a = both(within);
            while (is("or")) {
                at++;
                Node x = a;
                Node y = both(within);
                a = by -> {
                    int p = x.worth(by);
                    int q = y.worth(by);
                    return bit(p != 0 || q != 0);
                };
            }
            return a;
        }

        Node both(int within) {
            Node a = one(within);
            while (is("and")) {
                at++;
                Node x = a;
                Node y = one(within);
                a = by -> bit(x.worth(by) != 0 && y.worth(by) != 0);
            }
            return a;
        }

        Node one(int within) {
            if (is("not")) {
                if (within >= 7) {
                    throw wrong();
                }
                at++;
                Node x = one(within + 1);
                return by -> bit(x.worth(by) == 0);
            }
            Node x = sum(within);
            if (is("<") || is(">") || is("=")) {
                char sign = tokens.get(at++).text.charAt(0);
                Node y = sum(within);
                return by -> {
                    int p = x.worth(by);
                    int q = y.worth(by);
                    return bit(sign == '<' ? p < q : sign == '>' ? p > q : p == q);
                };
            }
            return x;
        }

        Node sum(int within) {
            Node a = term(within);
            while (is("+") || is("-")) {
                boolean plus = tokens.get(at++).text.equals("+");
                Node x = a;
                Node y = term(within);
                a = by -> plus ? x.worth(by) + y.worth(by) : x.worth(by) - y.worth(by);
            }
            return a;
        }

        Node term(int within) {
            Node a = unit(within);
            while (is("*") || is("/") || is("%")) {
                char sign = tokens.get(at++).text.charAt(0);
                Node x = a;
                Node y = unit(within);
                a = by -> {
                    int p = x.worth(by);
                    int q = y.worth(by);
                    if (sign == '*') {
                        return p * q;
                    }
                    return q == 0 ? 0 : sign == '/' ? p / q : p % q;
                };
            }
            return a;
        }

        Node unit(int within) {
            Token token = see();
            boolean named = token.sort == 'w'
                    && Set.of("snow", "steep", "noise", "below", "hour", "row").contains(token.text);
            if (token.sort != 'n' && !named && !is("(")) {
                throw wrong();
            }
            if (told.units == 30 || is("(") && within >= 7) {
                throw wrong();
            }
            told.units++;
            at++;
            if (token.sort == 'n') {
                int value = Integer.parseInt(token.text);
                return by -> value;
            }
            if (named) {
                return by -> by.get(token.text);
            }
            Node inner = either(within + 1);
            eat(")");
            return inner;
        }
    }

    // ---- what is

    static final class Now {
        int[][] snow = new int[6][5];
        int[][] walls = new int[6][5];
        int[] lane = new int[5];
        boolean[] gone = new boolean[5];
        boolean[] hushed = new boolean[6];
        int purse;
        int hour;
        int seed;
        List<int[]> loads = new ArrayList<>(); // lane, how much; since it was copied
        int tips;

        Now copy() {
            Now c = new Now();
            for (int i = 0; i < 6; i++) {
                c.snow[i] = snow[i].clone();
                c.walls[i] = walls[i].clone();
            }
            c.lane = lane.clone();
            c.gone = gone.clone();
            c.hushed = hushed.clone();
            c.purse = purse;
            c.hour = hour;
            c.seed = seed;
            return c;
        }
    }

    Told told = new Told();
    String tape = "";
    int faultKind;
    int faultPlace = -1;
    Now now = new Now();
    Deque<Now> undos = new ArrayDeque<>();
    Deque<Now> redos = new ArrayDeque<>();
    Map<Integer, Now> boxes = new HashMap<>();
    List<Integer> lying = new ArrayList<>();
    List<int[]> seen = new ArrayList<>(); // hours, room, is, told at, untold at (or most)
    int time;

    private static int bits(boolean[] is) {
        int sum = 0;
        for (int i = 0; i < is.length; i++) {
            sum += is[i] ? 1 << i : 0;
        }
        return sum;
    }

    private boolean isLane(int lane) {
        return lane >= 0 && lane < told.lanes;
    }

    private boolean isCell(int lane, int row) {
        return isLane(lane) && row >= 0 && row < told.rows;
    }

    private boolean isRoom(int room) {
        return room >= 0 && room < told.rooms.size();
    }

    private boolean isGuest(int guest) {
        return guest >= 0 && guest < told.guests.size();
    }

    private int noiseOf(Now s, int lane) {
        int sum = 0;
        for (int g = 0; g < told.guests.size(); g++) {
            int[] guest = told.guests.get(g);
            int h = s.hour % 48;
            if (!s.hushed[g] && !s.gone[guest[0]] && s.lane[guest[0]] == lane && guest[2] <= h && h <= guest[3]) {
                sum += guest[1];
            }
        }
        return sum;
    }

    private boolean tips(Now s, int lane, int row, int loud) {
        if (s.snow[lane][row] == 0) {
            return false;
        }
        int below = row == told.rows - 1 ? 0 : s.snow[lane][row + 1];
        return told.tips.worth(Map.of("snow", s.snow[lane][row], "steep", told.steep[row], "noise",
                noiseOf(s, lane) + loud, "below", below, "hour", s.hour, "row", row)) > 0;
    }

    /** Lane and load, or null if it goes aside; the snow is taken. */
    private int[] slide(Now s, int lane, int row) {
        int sum = s.snow[lane][row];
        s.snow[lane][row] = 0;
        for (int r = row + 1; r < told.rows; r++) {
            if (s.walls[lane][r] == 1) {
                lane--;
            } else if (s.walls[lane][r] == 2) {
                lane++;
            }
            if (!isLane(lane)) {
                return null;
            }
            sum += s.snow[lane][r];
            s.snow[lane][r] = 0;
        }
        return new int[] {lane, sum};
    }

    private void tip(Now s, int lane, int row) {
        s.tips++;
        int[] load = slide(s, lane, row);
        if (load == null) {
            return;
        }
        s.loads.add(load);
        for (int r = 0; r < told.rooms.size(); r++) {
            if (!s.gone[r] && s.lane[r] == load[0] && told.rooms.get(r)[1] < load[1]) {
                s.gone[r] = true;
            }
        }
    }

    private int rates(Now s) {
        int sum = 0;
        for (int r = 0; r < told.rooms.size(); r++) {
            sum += s.gone[r] ? 0 : told.rooms.get(r)[2];
        }
        return sum;
    }

    private void oneHour(Now s, int falls, boolean windy) {
        for (int l = 0; l < told.lanes; l++) {
            for (int r = 0; r < told.rows; r++) {
                s.snow[l][r] = Math.min(99, s.snow[l][r] + falls);
            }
        }
        s.seed = (s.seed * 137 + 71) % 1000;
        if (windy && s.seed % 100 < told.wind) {
            int l = s.seed % told.lanes;
            s.snow[l][0] = Math.min(99, s.snow[l][0] + 3);
        }
        for (int r = 0; r < told.rows; r++) {
            for (int l = 0; l < told.lanes; l++) {
                if (tips(s, l, r, 0)) {
                    tip(s, l, r);
                }
            }
        }
        s.purse += rates(s);
        s.hour++;
    }

    private Now behind(Now from, int n) {
        Now s = from.copy();
        for (int i = 0; i < n; i++) {
            oneHour(s, told.falls, false);
        }
        return s;
    }

    private int leftBehind(Now from, int n) {
        return rates(behind(from, n));
    }

    private void act() {
        undos.addLast(now.copy());
        if (undos.size() > 40) {
            undos.removeFirst();
        }
        redos.clear();
    }

    private static boolean out(int n, int most) {
        return n < 0 || n > most;
    }

    // ---- the face

    int feed(int a, int b, int c, int d, int e) {
        if (tape.length() + 20 > 1600) {
            return -1;
        }
        StringBuilder more = new StringBuilder(tape);
        for (int v : new int[] {a, b, c, d, e}) {
            for (int i = 3; i >= 0; i--) {
                more.append((char) (v >>> 8 * i & 255));
            }
        }
        tape = more.toString();
        return tape.length();
    }

    int end(int n) {
        if (out(n, tape.length())) {
            return -1;
        }
        tape = tape.substring(0, n);
        return n;
    }

    int pass() {
        try {
            told = new Reader(tape).read();
        } catch (Fault fault) {
            faultKind = fault.kind;
            faultPlace = fault.place;
            return -1;
        }
        faultKind = 0;
        faultPlace = -1;
        tape = "";
        now = first();
        undos.clear();
        redos.clear();
        boxes.clear();
        lying.clear();
        seen.clear();
        return told.rooms.size();
    }

    private Now first() {
        Now s = new Now();
        for (int l = 0; l < 6; l++) {
            s.snow[l] = told.snow[l].clone();
            s.walls[l] = told.walls[l].clone();
        }
        for (int r = 0; r < told.rooms.size(); r++) {
            s.lane[r] = told.rooms.get(r)[0];
        }
        s.seed = told.draw;
        return s;
    }

    int fault(int what) {
        return what == 0 ? faultKind : what == 1 ? faultPlace : -1;
    }

    int cell(int lane, int row, int what) {
        if (!isCell(lane, row)) {
            return -1;
        }
        return switch (what) {
            case 0 -> now.snow[lane][row];
            case 1 -> now.walls[lane][row];
            case 2 -> told.steep[row];
            case 3 -> tips(now, lane, row, 0) ? 1 : 0;
            default -> -1;
        };
    }

    int room(int room, int what) {
        if (!isRoom(room)) {
            return -1;
        }
        return switch (what) {
            case 0 -> now.lane[room];
            case 1, 2 -> told.rooms.get(room)[what];
            case 3 -> now.gone[room] ? 0 : 1;
            default -> -1;
        };
    }

    int guest(int guest, int what) {
        if (!isGuest(guest) || out(what, 4)) {
            return -1;
        }
        return what < 4 ? told.guests.get(guest)[what] : now.hushed[guest] ? 1 : 0;
    }

    int noise(int lane) {
        return isLane(lane) ? noiseOf(now, lane) : -1;
    }

    int hour() {
        if (now.hour >= 999) {
            return -1;
        }
        act();
        int before = bits(now.gone);
        oneHour(now, told.falls, true);
        return bits(now.gone) & ~before;
    }

    private void shoutIn(Now s, int lane, int loud) {
        for (int r = 0; r < told.rows; r++) {
            if (tips(s, lane, r, loud)) {
                tip(s, lane, r);
            }
        }
    }

    int shout(int lane, int loud) {
        if (!isLane(lane) || out(loud, 99)) {
            return -1;
        }
        act();
        int before = bits(now.gone);
        shoutIn(now, lane, loud);
        return bits(now.gone) & ~before;
    }

    int move(int room, int lane) {
        if (!isRoom(room) || !isLane(lane) || now.gone[room] || now.lane[room] == lane) {
            return -1;
        }
        act();
        int was = now.lane[room];
        now.lane[room] = lane;
        return was;
    }

    int build(int room) {
        if (!isRoom(room) || !now.gone[room]) {
            return -1;
        }
        act();
        now.gone[room] = false;
        int stand = 0;
        for (int r = 0; r < told.rooms.size(); r++) {
            stand += now.gone[r] ? 0 : 1;
        }
        return stand;
    }

    int hush(int guest) {
        return hushOrLet(guest, true);
    }

    int let(int guest) {
        return hushOrLet(guest, false);
    }

    private int hushOrLet(int guest, boolean hush) {
        if (!isGuest(guest) || now.hushed[guest] == hush) {
            return -1;
        }
        act();
        now.hushed[guest] = hush;
        return bits(now.hushed);
    }

    int wall(int lane, int row, int side) {
        if (!isCell(lane, row) || out(side, 2) || now.walls[lane][row] == side) {
            return -1;
        }
        act();
        int was = now.walls[lane][row];
        now.walls[lane][row] = side;
        return was;
    }

    int shovel(int lane, int row) {
        if (!isCell(lane, row) || now.snow[lane][row] == 0) {
            return -1;
        }
        act();
        int was = now.snow[lane][row];
        now.snow[lane][row] = 0;
        return was;
    }

    boolean undo() {
        if (undos.isEmpty()) {
            return false;
        }
        redos.addLast(now);
        now = undos.removeLast();
        return true;
    }

    boolean redo() {
        if (redos.isEmpty()) {
            return false;
        }
        undos.addLast(now);
        now = redos.removeLast();
        return true;
    }

    int will(int n, int what) {
        if (out(n, 60) || out(what, 1)) {
            return -1;
        }
        Now s = now.copy();
        for (int i = 0; i < n; i++) {
            oneHour(s, told.falls, what == 1);
        }
        return bits(s.gone);
    }

    int depth(int lane, int row, int n) {
        return !isCell(lane, row) || out(n, 60) ? -1 : behind(now, n).snow[lane][row];
    }

    int left(int n) {
        return out(n, 60) ? -1 : leftBehind(now, n);
    }

    int purse(int n) {
        return out(n, 60) ? -1 : behind(now, n).purse;
    }

    int when(int room) {
        if (!isRoom(room)) {
            return -1;
        }
        for (int n = 0; n <= 60; n++) {
            if (behind(now, n).gone[room]) {
                return n;
            }
        }
        return -1;
    }

    int next() {
        for (int n = 1; n <= 60; n++) {
            if (behind(now, n).tips > 0) {
                return n;
            }
        }
        return -1;
    }

    int first(int lane) {
        for (int n = 1; n <= 60 && isLane(lane); n++) {
            if (behind(now, n).loads.stream().anyMatch(load -> load[0] == lane)) {
                return n;
            }
        }
        return -1;
    }

    int track(int lane, int row, int what) {
        if (!isCell(lane, row) || out(what, 1)) {
            return -2;
        }
        int[] load = slide(now.copy(), lane, row);
        return load == null ? what == 0 ? -1 : 0 : load[what];
    }

    int least(int lane) {
        for (int loud = 0; loud <= 99 && isLane(lane); loud++) {
            Now s = now.copy();
            shoutIn(s, lane, loud);
            if (s.tips > 0) {
                return loud;
            }
        }
        return -1;
    }

    int places(int n) {
        lying.clear();
        if (out(n, 24)) {
            return -1;
        }
        int[] best = {-1};
        List<Integer> bestLanes = new ArrayList<>();
        placesFrom(now.copy(), 0, n, best, bestLanes);
        lying.addAll(bestLanes);
        return best[0];
    }

    private void placesFrom(Now s, int room, int n, int[] best, List<Integer> bestLanes) {
        if (room == told.rooms.size()) {
            int left = leftBehind(s, n);
            if (left > best[0]) {
                best[0] = left;
                bestLanes.clear();
                for (int r = 0; r < told.rooms.size(); r++) {
                    bestLanes.add(s.lane[r]);
                }
            }
            return;
        }
        if (s.gone[room]) {
            placesFrom(s, room + 1, n, best, bestLanes);
            return;
        }
        for (int lane = 0; lane < told.lanes; lane++) {
            s.lane[room] = lane;
            placesFrom(s, room + 1, n, best, bestLanes);
        }
    }

    int quiet(int n, int what) {
        if (out(n, 24) || out(what, 1)) {
            return -1;
        }
        int best = -1;
        for (int set = 0; set < 1 << told.guests.size(); set++) {
            Now s = now.copy();
            if ((set & bits(now.hushed)) != 0) {
                continue;
            }
            for (int g = 0; g < 6; g++) {
                s.hushed[g] |= (set >> g & 1) != 0;
            }
            boolean holds = bits(behind(s, n).gone) == bits(now.gone);
            if (holds && (best < 0 || Integer.bitCount(set) < Integer.bitCount(best))) {
                best = set;
            }
        }
        return best < 0 || what == 1 ? best : Integer.bitCount(best);
    }

    int dam(int n, int what) {
        if (out(n, 24) || out(what, 3)) {
            return -1;
        }
        int[] best = null;
        for (int l = 0; l < told.lanes; l++) {
            for (int r = 0; r < told.rows; r++) {
                for (int side = 1; side <= 2 && now.walls[l][r] == 0; side++) {
                    Now s = now.copy();
                    s.walls[l][r] = side;
                    int left = leftBehind(s, n);
                    if (best == null || left > best[3]) {
                        best = new int[] {l, r, side, left};
                    }
                }
            }
        }
        return best == null || best[3] <= leftBehind(now, n) ? -1 : best[what];
    }

    int brunt(int lane, int n) {
        if (!isLane(lane) || out(n, 60)) {
            return -1;
        }
        return behind(now, n).loads.stream().filter(load -> load[0] == lane).mapToInt(load -> load[1]).sum();
    }

    int gable(int n) {
        if (out(n, 60)) {
            return -1;
        }
        int best = 0;
        for (int l = 0; l < told.lanes; l++) {
            if (brunt(l, n) < brunt(best, n)) {
                best = l;
            }
        }
        return best;
    }

    int dig(int n, int what) {
        if (out(n, 24) || out(what, 2)) {
            return -1;
        }
        int[] best = {0, 0, -1};
        for (int l = 0; l < told.lanes; l++) {
            for (int r = 0; r < told.rows; r++) {
                Now s = now.copy();
                s.snow[l][r] = 0;
                int left = leftBehind(s, n);
                if (left > best[2]) {
                    best = new int[] {l, r, left};
                }
            }
        }
        return best[what];
    }

    private int[] gains(int guest, int other, int a, int b) {
        Now s = now.copy();
        s.hushed[guest] = a == 0;
        s.hushed[other] = b == 0;
        Now then = behind(s, 6);
        int[] gains = new int[2];
        for (int i = 0; i < 2; i++) {
            int g = i == 0 ? guest : other;
            int room = told.guests.get(g)[0];
            gains[i] = (i == 0 ? a : b) * told.guests.get(g)[1];
            if (!now.gone[room] && then.gone[room]) {
                gains[i] -= 25;
            }
        }
        return gains;
    }

    int duel(int guest, int other) {
        lying.clear();
        if (!isGuest(guest) || !isGuest(other) || guest == other) {
            return -1;
        }
        int rests = 0;
        for (int a = 0; a <= 1; a++) {
            for (int b = 0; b <= 1; b++) {
                int[] here = gains(guest, other, a, b);
                if (gains(guest, other, 1 - a, b)[0] <= here[0] && gains(guest, other, a, 1 - b)[1] <= here[1]) {
                    if (rests == 0) {
                        lying.add(a);
                        lying.add(b);
                    }
                    rests++;
                }
            }
        }
        return rests;
    }

    int fear(int what) {
        if (out(what, 1)) {
            return -1;
        }
        int[] best = {0, 0};
        for (int l = 0; l < told.lanes; l++) {
            for (int r = 0; r < told.rows; r++) {
                if (track(l, r, 1) > track(best[0], best[1], 1)) {
                    best = new int[] {l, r};
                }
            }
        }
        return best[what];
    }

    int borne(int lane) {
        int best = -1;
        for (int loud = 0; loud <= 99 && isLane(lane); loud++) {
            Now s = now.copy();
            shoutIn(s, lane, loud);
            if (bits(s.gone) == bits(now.gone)) {
                best = loud;
            }
        }
        return best;
    }

    int poor() {
        int best = -1;
        for (int r = 0; r < told.rooms.size(); r++) {
            if (when(r) >= 0 && (best < 0 || when(r) < when(best))) {
                best = r;
            }
        }
        return best;
    }

    int awake(int hour) {
        if (out(hour, 47)) {
            return -1;
        }
        int set = 0;
        for (int g = 0; g < told.guests.size(); g++) {
            int[] guest = told.guests.get(g);
            if (!now.hushed[g] && !now.gone[guest[0]] && guest[2] <= hour && guest[3] >= hour) {
                set |= 1 << g;
            }
        }
        return set;
    }

    int heap(int lane) {
        int sum = 0;
        for (int r = 0; r < told.rows && isLane(lane); r++) {
            sum += now.snow[lane][r];
        }
        return isLane(lane) ? sum : -1;
    }

    int law(int n) {
        if (out(n, 9)) {
            return -1;
        }
        Now s = now.copy();
        for (int i = 0; i < 24; i++) {
            oneHour(s, n, false);
        }
        return rates(s);
    }

    int odds(int n, int part) {
        if (out(n, 4) || out(part, 1)) {
            return -1;
        }
        BigInteger upper = BigInteger.valueOf(100 - told.wind).pow(n);
        BigInteger lower = BigInteger.valueOf(100).pow(n);
        BigInteger shared = upper.gcd(lower);
        return (part == 0 ? upper : lower).divide(shared).intValueExact();
    }

    int lies(int i) {
        return i < 0 || i >= lying.size() ? -2 : lying.get(i);
    }

    int seen(int hours, int room, boolean is) {
        if (out(hours, 24) || !isRoom(room) || seen.size() == 30) {
            return -1;
        }
        seen.add(new int[] {hours, room, is ? 1 : 0, time, -1});
        return seen.size() - 1;
    }

    boolean untell(int number) {
        if (number < 0 || number >= seen.size() || seen.get(number)[4] >= 0) {
            return false;
        }
        seen.get(number)[4] = time;
        return true;
    }

    int later(int by) {
        if (out(by, 1000) || time + by > 100000) {
            return -1;
        }
        time += by;
        return time;
    }

    private int goneBy(int top, int hours) {
        Now s = first();
        s.snow[told.lanes - 1][0] = top;
        return bits(behind(s, hours).gone);
    }

    private List<Integer> fitting(int k) {
        List<Integer> fit = new ArrayList<>();
        for (int top = 0; top <= 30; top++) {
            boolean so = true;
            for (int[] s : seen) {
                boolean counts = s[3] <= k && !(s[4] >= 0 && s[4] <= k);
                so &= !counts || (goneBy(top, s[0]) >> s[1] & 1) == s[2];
            }
            if (so) {
                fit.add(top);
            }
        }
        return fit;
    }

    int fits(int k) {
        return fitting(k).size();
    }

    int sure(int what, int k) {
        List<Integer> fit = fitting(k);
        return fit.isEmpty() || out(what, 1) ? -1 : fit.get(what == 0 ? 0 : fit.size() - 1);
    }

    int ask(int what, int k) {
        List<Integer> fit = fitting(k);
        if (fit.isEmpty() || out(what, 1)) {
            return -1;
        }
        int best = 0;
        int bestLeft = 99;
        for (int h = 0; h <= 24; h++) {
            Map<Integer, Integer> parts = new HashMap<>();
            for (int top : fit) {
                parts.merge(goneBy(top, h), 1, Integer::sum);
            }
            int most = parts.values().stream().mapToInt(v -> v).max().orElse(0);
            if (most < bestLeft) {
                bestLeft = most;
                best = h;
            }
        }
        return what == 0 ? best : bestLeft;
    }

    int image(int box) {
        if (out(box, 2)) {
            return -1;
        }
        boxes.put(box, now.copy());
        return now.hour;
    }

    int back(int box) {
        if (!boxes.containsKey(box)) {
            return -1;
        }
        now = boxes.get(box).copy();
        undos.clear();
        redos.clear();
        return now.hour;
    }

    int about(int what) {
        int[] all = {told.rooms.size(), told.guests.size(), told.lanes, told.rows, bits(now.gone), bits(now.hushed),
            now.purse, now.hour, now.seed, undos.size(), redos.size(), seen.size(), time, tape.length(), told.units,
            lying.size(), told.falls, told.wind};
        return out(what, all.length - 1) ? -1 : all[what];
    }

    static byte[] bytes(String text) {
        return text.getBytes(StandardCharsets.ISO_8859_1);
    }
}
