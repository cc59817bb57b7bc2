import java.math.BigInteger;
import java.util.ArrayDeque;
import java.util.ArrayList;
import java.util.Arrays;
import java.util.HashSet;
import java.util.List;
import java.util.Set;
import java.util.function.Supplier;

/** A second reading of the document, as plain as can be: it tries all ways. For tests alone. */
final class PlainNursery {
    static final int BEYOND = -100001, MISSING = -100002, SIZE = -100003, KIND = -100004;
    static final int FULL = -100005, NONE = -100006, TAKEN = -100007, BARRED = -100008;

    static final class Room {
        int from, to, places;
    }

    static final class Hand {
        int kind;
        int room = -1;
        boolean ill;
    }

    static final class Child {
        int birth, sibling, sessions, first, last;
        int room = -1;
        boolean asleep, admitted;
        Set<Integer> persons = new HashSet<>();
    }

    record Led(int slot, int child, String what) {
    }

    static final class State {
        List<Room> rooms = new ArrayList<>();
        List<Hand> hands = new ArrayList<>();
        List<Child> children = new ArrayList<>();
        List<Led> roll = new ArrayList<>();
        List<Led> sleep = new ArrayList<>();
        List<Integer> waiting = new ArrayList<>();
        List<Integer> text = new ArrayList<>();
        int[] needed = new int[60];
        int month, slot, longSlots = 36, rate = 10;

        State twin() {
            State t = new State();
            for (Room r : rooms) {
                Room q = new Room();
                q.from = r.from;
                q.to = r.to;
                q.places = r.places;
                t.rooms.add(q);
            }
            for (Hand h : hands) {
                Hand q = new Hand();
                q.kind = h.kind;
                q.room = h.room;
                q.ill = h.ill;
                t.hands.add(q);
            }
            for (Child c : children) {
                Child q = new Child();
                q.birth = c.birth;
                q.sibling = c.sibling;
                q.sessions = c.sessions;
                q.first = c.first;
                q.last = c.last;
                q.room = c.room;
                q.asleep = c.asleep;
                q.admitted = c.admitted;
                q.persons.addAll(c.persons);
                t.children.add(q);
            }
            t.roll.addAll(roll);
            t.sleep.addAll(sleep);
            t.waiting.addAll(waiting);
            t.text.addAll(text);
            t.needed = needed.clone();
            t.month = month;
            t.slot = slot;
            t.longSlots = longSlots;
            t.rate = rate;
            return t;
        }
    }

    private State s = new State();
    private final ArrayDeque<State> kept = new ArrayDeque<>();
    private final int[] bits = new int[4];
    private final int[][] sheets = new int[4][];
    private int findings;

    /** A query: its answer, counted if it is a finding. */
    private int tell(int answer) {
        if (answer < -99999) {
            findings++;
        }
        return answer;
    }

    /** An act: it is done on a twin, so that a finding can't change anything. */
    private int act(Supplier<Integer> what) {
        State before = s;
        s = s.twin();
        int answer = what.get();
        if (answer < -99999) {
            s = before;
            findings++;
            return answer;
        }
        kept.addLast(before);
        if (kept.size() > 16) {
            kept.removeFirst();
        }
        return answer;
    }

    private boolean noChild(int c) {
        return c < 0 || c >= s.children.size();
    }

    private boolean noRoom(int r) {
        return r < 0 || r >= s.rooms.size();
    }

    private boolean noHand(int h) {
        return h < 0 || h >= s.hands.size();
    }

    int room(int ages, int places) {
        return act(() -> {
            if (ages < 0 || ages / 100 > 71 || ages % 100 > 71 || places < 1 || places > 20) return BEYOND;
            if (ages / 100 > ages % 100) return SIZE;
            if (s.rooms.size() == 5) return FULL;
            Room r = new Room();
            r.from = ages / 100;
            r.to = ages % 100;
            r.places = places;
            s.rooms.add(r);
            return s.rooms.size() - 1;
        });
    }

    int hand(int kind) {
        return act(() -> {
            if (kind < 0 || kind > 3) return BEYOND;
            if (s.hands.size() == 7) return FULL;
            Hand h = new Hand();
            h.kind = kind;
            s.hands.add(h);
            return s.hands.size() - 1;
        });
    }

    private static final int[] PARENT = {-1, 0, 1, 0};

    int as(int hand, int kind) {
        if (noHand(hand) || kind < 0 || kind > 3) return tell(BEYOND);
        for (int k = s.hands.get(hand).kind; k != -1; k = PARENT[k]) {
            if (k == kind) return hand;
        }
        return tell(KIND);
    }

    int child(int birth, int sibling, int sessions, int months) {
        return act(() -> {
            if (birth < -71 || birth > 60) return BEYOND;
            if (sibling != -1 && noChild(sibling)) return BEYOND;
            if (sessions < 0 || sessions > 31) return BEYOND;
            if (months < 0 || months / 100 > 60 || months % 100 > 60) return BEYOND;
            if (months / 100 > months % 100) return SIZE;
            if (s.children.size() == 10) return FULL;
            Child c = new Child();
            c.birth = birth;
            c.sibling = sibling;
            c.sessions = sessions;
            c.first = months / 100;
            c.last = months % 100;
            s.children.add(c);
            return s.children.size() - 1;
        });
    }

    int childIs(int child, int what) {
        if (noChild(child) || what < 0 || what > 8) return tell(BEYOND);
        Child c = s.children.get(child);
        int named = 0;
        for (int p : c.persons) named += 1 << p;
        int[] row = {c.birth, c.sibling, c.sessions, c.first, c.last, c.room, c.asleep ? 1 : 0, c.admitted ? 1 : 0, named};
        return row[what];
    }

    private int roomFor(Child c, int month) {
        int age = month - c.birth;
        if (age < 0 || age > 71) return -1;
        for (int r = 0; r < s.rooms.size(); r++) {
            if (s.rooms.get(r).from <= age && age <= s.rooms.get(r).to) return r;
        }
        return -1;
    }

    int roomOf(int child, int month) {
        if (noChild(child) || month < 0 || month > 60) return tell(BEYOND);
        int r = roomFor(s.children.get(child), month);
        return tell(r < 0 ? NONE : r);
    }

    int month(int v) {
        return act(() -> {
            if (v < 0 || v > 60) return BEYOND;
            int was = s.month;
            s.month = v;
            return was;
        });
    }

    int slot(int v) {
        return act(() -> {
            if (v < 0 || v > 59) return BEYOND;
            if (v < s.slot) return SIZE;
            int was = s.slot;
            s.slot = v;
            return was;
        });
    }

    int day() {
        return act(() -> {
            int were = 0;
            for (Child c : s.children) {
                if (c.room >= 0) were++;
                c.room = -1;
                c.asleep = false;
            }
            for (Hand h : s.hands) h.ill = false;
            s.slot = 0;
            s.roll.clear();
            s.sleep.clear();
            return were;
        });
    }

    private List<Child> childrenIn(int room) {
        List<Child> in = new ArrayList<>();
        for (Child c : s.children) if (c.room == room) in.add(c);
        return in;
    }

    private void lead(List<Led> log, int child, String what) {
        log.add(new Led(s.slot, child, what));
        if (log.size() > 40) log.remove(0);
    }

    private int unfit(Child c, int room) {
        Room r = s.rooms.get(room);
        int age = s.month - c.birth;
        if (age < r.from || age > r.to) return KIND;
        if (childrenIn(room).size() == r.places) return FULL;
        return 0;
    }

    int in(int child, int room) {
        return act(() -> {
            if (noChild(child) || noRoom(room)) return BEYOND;
            Child c = s.children.get(child);
            if (c.room != -1) return TAKEN;
            if (unfit(c, room) != 0) return unfit(c, room);
            c.room = room;
            lead(s.roll, child, "in");
            return childrenIn(room).size();
        });
    }

    int to(int child, int room) {
        return act(() -> {
            if (noChild(child) || noRoom(room)) return BEYOND;
            Child c = s.children.get(child);
            if (c.room == -1) return NONE;
            if (c.room == room) return TAKEN;
            if (unfit(c, room) != 0) return unfit(c, room);
            int was = c.room;
            c.room = room;
            return was;
        });
    }

    int over(int child, int person) {
        return act(() -> {
            if (noChild(child) || person < 0 || person > 15) return BEYOND;
            Child c = s.children.get(child);
            if (c.room == -1) return NONE;
            if (!c.persons.contains(person)) return BARRED;
            lead(s.roll, child, "out");
            if (c.asleep) lead(s.sleep, child, "wake");
            c.asleep = false;
            c.room = -1;
            return 1;
        });
    }

    int fetches(int child, int person, boolean is) {
        return act(() -> {
            if (noChild(child) || person < 0 || person > 15) return BEYOND;
            Child c = s.children.get(child);
            boolean changed = is ? c.persons.add(person) : c.persons.remove(person);
            return changed ? 1 : 0;
        });
    }

    int place(int hand, int room) {
        return act(() -> {
            if (noHand(hand) || room < -1 || room >= s.rooms.size()) return BEYOND;
            Hand h = s.hands.get(hand);
            if (h.ill) return NONE;
            int was = h.room;
            h.room = room;
            return was;
        });
    }

    int ill(int hand) {
        return act(() -> {
            if (noHand(hand)) return BEYOND;
            Hand h = s.hands.get(hand);
            if (h.ill) return TAKEN;
            int was = h.room;
            h.room = -1;
            h.ill = true;
            return was;
        });
    }

    private static BigInteger ceil(BigInteger a, BigInteger b) {
        if (b.signum() <= 0) return BigInteger.ZERO;
        BigInteger[] qr = a.divideAndRemainder(b);
        return qr[1].signum() > 0 ? qr[0].add(BigInteger.ONE) : qr[0];
    }

    private int textWrong() {
        int row = 0;
        for (int i = 0; i < s.text.size(); i++) {
            int sign = s.text.get(i);
            if (sign >= 50) {
                if (row < 2) return i;
                row--;
            } else {
                row++;
                if (row > 5) return i;
            }
        }
        return row == 1 ? -1 : s.text.size();
    }

    private int need(int room) {
        int[] n = new int[7];
        for (Child c : childrenIn(room)) {
            int age = s.month - c.birth;
            n[age < 24 ? 1 : age <= 35 ? 2 : 3]++;
            if (c.asleep) n[4]++;
            n[6]++;
        }
        n[5] = room;
        if (textWrong() != -1) return 2 * ((n[1] + 2) / 3 + (n[2] + 3) / 4 + (n[3] + 7) / 8);
        ArrayDeque<BigInteger> row = new ArrayDeque<>();
        for (int sign : s.text) {
            if (sign < 50) {
                row.addLast(BigInteger.valueOf(sign < 10 ? n[sign] : sign - 10));
                continue;
            }
            BigInteger b = row.removeLast();
            BigInteger a = row.removeLast();
            row.addLast(switch (sign) {
                case 50 -> a.add(b);
                case 51 -> a.subtract(b);
                case 52 -> a.multiply(b);
                case 53 -> ceil(a, b);
                default -> a.max(b);
            });
        }
        BigInteger most = BigInteger.valueOf(Integer.MAX_VALUE);
        return row.getLast().max(BigInteger.ZERO).min(most).intValue();
    }

    private static final int[] WORTHS = {2, 2, 3, 0};

    private boolean enough(int room, int[] rooms, int need) {
        int worth = 0;
        boolean trained = false;
        for (int h = 0; h < rooms.length; h++) {
            if (rooms[h] == room) {
                int kind = s.hands.get(h).kind;
                worth += WORTHS[kind];
                trained |= kind == 1 || kind == 2;
            }
        }
        return worth >= need && (trained || childrenIn(room).isEmpty());
    }

    private int[] handRooms() {
        int[] rooms = new int[s.hands.size()];
        for (int h = 0; h < rooms.length; h++) rooms[h] = s.hands.get(h).room;
        return rooms;
    }

    int now(int room, int what) {
        if (noRoom(room) || what < 0 || what > 4) return tell(BEYOND);
        int set = 0;
        int worth = 0;
        if (what == 0) {
            for (int c = 0; c < s.children.size(); c++) if (s.children.get(c).room == room) set += 1 << c;
            return set;
        }
        for (int h = 0; h < s.hands.size(); h++) {
            if (s.hands.get(h).room == room) {
                set += 1 << h;
                worth += WORTHS[s.hands.get(h).kind];
            }
        }
        return what == 1 ? set : what == 2 ? need(room) : what == 3 ? worth : enough(room, handRooms(), need(room)) ? 1 : 0;
    }

    int lacking() {
        int set = 0;
        for (int r = 0; r < s.rooms.size(); r++) {
            if (!enough(r, handRooms(), need(r))) set += 1 << r;
        }
        return set;
    }

    private int[] bestRooms;
    private int bestMoves;
    private int[] needs;

    /** All ways, in the document's order; the first of the fewest moves stays. */
    private void tryAll(int[] rooms, int hand, int moves) {
        if (moves >= bestMoves) return;
        if (hand == rooms.length) {
            for (int r = 0; r < s.rooms.size(); r++) if (!enough(r, rooms, needs[r])) return;
            bestMoves = moves;
            bestRooms = rooms.clone();
            return;
        }
        Hand h = s.hands.get(hand);
        if (h.ill) {
            rooms[hand] = -1;
            tryAll(rooms, hand + 1, moves);
            return;
        }
        for (int r = h.room == -1 ? -1 : 0; r < s.rooms.size(); r++) {
            rooms[hand] = r;
            tryAll(rooms, hand + 1, moves + (r == h.room ? 0 : 1));
        }
    }

    private boolean findMoves() {
        bestRooms = null;
        bestMoves = 99;
        needs = new int[s.rooms.size()];
        for (int r = 0; r < needs.length; r++) needs[r] = need(r);
        tryAll(new int[s.hands.size()], 0, 0);
        return bestRooms != null;
    }

    int moves() {
        return tell(findMoves() ? bestMoves : NONE);
    }

    int moved(int hand) {
        if (noHand(hand)) return tell(BEYOND);
        if (s.hands.get(hand).ill || !findMoves()) return tell(NONE);
        return bestRooms[hand];
    }

    int move() {
        return act(() -> {
            if (!findMoves()) return NONE;
            for (int h = 0; h < s.hands.size(); h++) {
                if (!s.hands.get(h).ill) s.hands.get(h).room = bestRooms[h];
            }
            return bestMoves;
        });
    }

    private int wasIn(int slot, int child) {
        for (int i = s.roll.size() - 1; i >= 0; i--) {
            Led led = s.roll.get(i);
            if (led.child() == child && led.slot() <= slot) return led.what().equals("in") ? 1 : 0;
        }
        return 0;
    }

    int roll(int slot, int child) {
        if (slot < 0 || slot > 59 || child < -1 || child >= s.children.size()) return tell(BEYOND);
        if (child >= 0) return wasIn(slot, child);
        int sum = 0;
        for (int c = 0; c < s.children.size(); c++) sum += wasIn(slot, c);
        return sum;
    }

    int sleeps(int child, boolean is) {
        return act(() -> {
            if (noChild(child)) return BEYOND;
            Child c = s.children.get(child);
            if (c.room == -1) return NONE;
            if (c.asleep == is) return 0;
            c.asleep = is;
            lead(s.sleep, child, is ? "sleep" : "wake");
            return 1;
        });
    }

    int look(int child) {
        return act(() -> {
            if (noChild(child)) return BEYOND;
            if (!s.children.get(child).asleep) return NONE;
            lead(s.sleep, child, "look");
            int looks = 0;
            for (Led led : s.sleep) if (led.what().equals("look")) looks++;
            return looks;
        });
    }

    int missed(int child, boolean first) {
        if (noChild(child)) return tell(BEYOND);
        List<Integer> found = new ArrayList<>();
        int since = -1;
        for (Led led : s.sleep) {
            if (led.child() != child) continue;
            if (since >= 0 && led.slot() - since > 2) found.add(since);
            since = led.what().equals("wake") ? -1 : led.slot();
        }
        if (since >= 0 && s.slot - since > 2) found.add(since);
        if (!first) return found.size();
        return found.isEmpty() ? tell(NONE) : found.get(0);
    }

    int needed(int from, int to, int n) {
        return act(() -> {
            if (from < 0 || to > 59 || from > to || n < 0 || n > 8) return BEYOND;
            Arrays.fill(s.needed, from, to + 1, n);
            return to + 1 - from;
        });
    }

    int longer(int v) {
        return act(() -> {
            if (v < 1 || v > 60) return BEYOND;
            int was = s.longSlots;
            s.longSlots = v;
            return was;
        });
    }

    private int firstLacking(List<Integer> begins) {
        for (int slot = 0; slot < 60; slot++) {
            int there = 0;
            for (int b : begins) if (b <= slot && slot < b + s.longSlots) there++;
            if (there < s.needed[slot]) return slot;
        }
        return -1;
    }

    private List<Integer> theShifts() {
        List<Integer> begins = new ArrayList<>();
        for (int lack = firstLacking(begins); lack >= 0; lack = firstLacking(begins)) {
            int begin = lack;
            while (begin + s.longSlots > 60) begin--;
            begins.add(begin);
        }
        return begins;
    }

    int shifts(int i) {
        if (i < -1) return tell(BEYOND);
        List<Integer> all = theShifts();
        if (i == -1) return all.size();
        return i < all.size() ? all.get(i) : tell(NONE);
    }

    private boolean noSheet(int sheet) {
        return sheet < 0 || sheet > 3;
    }

    int proves(int sheet) {
        if (noSheet(sheet)) return tell(BEYOND);
        if (sheets[sheet] == null) return tell(MISSING);
        List<Integer> begins = new ArrayList<>();
        for (int b : sheets[sheet]) {
            if (b < 0 || b > 60 - s.longSlots) return tell(KIND);
            if (!begins.isEmpty() && begins.get(begins.size() - 1) > b) return tell(KIND);
            begins.add(b);
        }
        int lack = firstLacking(begins);
        return lack >= 0 ? lack : begins.size() > theShifts().size() ? 60 : -1;
    }

    int waits(int child) {
        return act(() -> {
            if (noChild(child)) return BEYOND;
            if (s.waiting.contains(child) || s.children.get(child).admitted) return TAKEN;
            s.waiting.add(child);
            return s.waiting.size();
        });
    }

    private boolean siblingIsHere(int child) {
        Child c = s.children.get(child);
        for (int o = 0; o < s.children.size(); o++) {
            Child other = s.children.get(o);
            if (o == child || !other.admitted) continue;
            if (c.sibling == o || other.sibling == child || (c.sibling >= 0 && c.sibling == other.sibling)) return true;
        }
        return false;
    }

    int list(int i) {
        if (i < 0) return tell(BEYOND);
        List<Integer> order = new ArrayList<>();
        for (int c : s.waiting) if (siblingIsHere(c)) order.add(c);
        for (int c : s.waiting) if (!siblingIsHere(c)) order.add(c);
        return i < order.size() ? order.get(i) : tell(NONE);
    }

    private int there(int room, int day, int month) {
        int sum = 0;
        for (Child c : s.children) {
            boolean then = c.first <= month && month <= c.last && (c.sessions & (1 << day)) != 0;
            if (c.admitted && then && roomFor(c, month) == room) sum++;
        }
        return sum;
    }

    private boolean can(Child c, int from) {
        for (int month = from; month <= c.last; month++) {
            int room = roomFor(c, month);
            if (room < 0) continue;
            for (int day = 0; day < 5; day++) {
                if ((c.sessions & (1 << day)) != 0 && there(room, day, month) + 1 > s.rooms.get(room).places) return false;
            }
        }
        return true;
    }

    private int least(int child) {
        if (noChild(child)) return BEYOND;
        Child c = s.children.get(child);
        if (c.admitted) return TAKEN;
        for (int from = c.first; from <= c.last; from++) if (can(c, from)) return from;
        return NONE;
    }

    int earliest(int child) {
        return tell(least(child));
    }

    int admit(int child) {
        return act(() -> {
            int from = least(child);
            if (from < 0) return from;
            s.children.get(child).first = from;
            s.children.get(child).admitted = true;
            s.waiting.remove(Integer.valueOf(child));
            return from;
        });
    }

    int places(int room, int day, int month) {
        if (noRoom(room) || day < 0 || day > 4 || month < 0 || month > 60) return tell(BEYOND);
        return there(room, day, month);
    }

    int rate(int v) {
        return act(() -> {
            if (v < 1 || v > 99) return BEYOND;
            int was = s.rate;
            s.rate = v;
            return was;
        });
    }

    int bill(int child, int away, int funded, boolean term) {
        if (noChild(child) || away < 0 || away > 31 || funded < 0 || funded > 30) return tell(BEYOND);
        int hours = 0;
        for (int day = 0; day < 5; day++) {
            if ((s.children.get(child).sessions & (1 << day)) != 0 && (away & (1 << day)) == 0) hours += 10;
        }
        if (term) hours -= funded;
        int sum = hours < 0 ? 0 : hours * s.rate;
        for (int i = s.roll.size() - 1; i >= 0; i--) {
            if (s.roll.get(i).child() == child && s.roll.get(i).what().equals("out")) {
                return sum + (s.roll.get(i).slot() > 54 ? 5 * (s.roll.get(i).slot() - 54) : 0);
            }
        }
        return sum;
    }

    int text(int sheet) {
        return act(() -> {
            if (noSheet(sheet)) return BEYOND;
            if (sheets[sheet] == null) return MISSING;
            if (sheets[sheet].length > 14) return SIZE;
            s.text.clear();
            for (int sign : sheets[sheet]) {
                if (sign < 1 || sign > 54 || (sign > 6 && sign < 10)) return BEYOND;
                s.text.add(sign);
            }
            return s.text.size();
        });
    }

    int wrong() {
        return textWrong();
    }

    int sheet(int sheet, int width, int n) {
        if (noSheet(sheet) || (width != 0 && width != 8 && width != 16 && width != 32)) return tell(BEYOND);
        if (n < 0) return tell(SIZE);
        if (n > 60) return tell(BEYOND);
        bits[sheet] = width;
        sheets[sheet] = width == 0 ? null : new int[n];
        return width == 0 ? 0 : n;
    }

    int put(int sheet, int i, int v) {
        if (noSheet(sheet)) return tell(BEYOND);
        if (sheets[sheet] == null) return tell(MISSING);
        if (i < 0 || i >= sheets[sheet].length) return tell(BEYOND);
        sheets[sheet][i] = bits[sheet] == 32 ? v : v & ((1 << bits[sheet]) - 1);
        return 0;
    }

    int copy(int from, int at, int to, int target, int n) {
        if (noSheet(from) || noSheet(to)) return tell(BEYOND);
        if (sheets[from] == null || sheets[to] == null) return tell(MISSING);
        if (bits[from] != bits[to]) return tell(KIND);
        if (at < 0 || target < 0 || n < 0) return tell(BEYOND);
        if ((long) at + n > sheets[from].length || (long) target + n > sheets[to].length) return tell(BEYOND);
        int[] taken = Arrays.copyOfRange(sheets[from], at, at + n);
        for (int i = 0; i < n; i++) sheets[to][target + i] = taken[i];
        return n;
    }

    int undo() {
        if (kept.isEmpty()) return tell(NONE);
        s = kept.removeLast();
        return kept.size();
    }

    /** For the makers of runs: the room that a child has in THE MONTH, or -1. */
    int roomNow(int child) {
        return noChild(child) ? -1 : roomFor(s.children.get(child), s.month);
    }

    /** For the makers of runs: THE SHIFTS. */
    List<Integer> shiftsNow() {
        return theShifts();
    }

    int all(int what) {
        int in = 0;
        for (Child c : s.children) if (c.room != -1) in++;
        int[] row = {s.rooms.size(), s.hands.size(), s.children.size(), in, s.slot, s.roll.size(), s.sleep.size(), findings};
        return what < 0 || what > 7 ? tell(BEYOND) : row[what];
    }
}
