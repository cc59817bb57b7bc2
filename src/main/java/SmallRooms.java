import java.util.Arrays;

/** A nursery's day and years, as ../shared/DOC.md promises it. */
public final class SmallRooms {
    private static final int BEYOND = -100001;
    private static final int MISSING = -100002;
    private static final int SIZE = -100003;
    private static final int KIND = -100004;
    private static final int FULL = -100005;
    private static final int NONE = -100006;
    private static final int TAKEN = -100007;
    private static final int BARRED = -100008;
    /** What a test of several findings tells if there is none. */
    private static final int FINE = 0;

    /** The greatest int, written out since LANGUAGE.md lists only functions of Integer. */
    private static final int GREATEST_INT = 0x7fffffff;
    private static final int NOWHERE = -1;
    private static final int NOBODY = -1;
    private static final int RIGHT = -1;
    private static final int NEVER = -1;

    private static final int MOST_ROOMS = 5;
    private static final int MOST_PLACES = 20;
    private static final int MOST_HANDS = 7;
    private static final int MOST_CHILDREN = 10;
    private static final int OLDEST = 71;
    private static final int LAST_MONTH = 60;
    private static final int DAYS = 5;
    private static final int ALL_DAYS = 31;
    private static final int SLOTS = 60;
    private static final int PERSONS = 16;
    private static final int MOST_LED = 40;
    private static final int MOST_SIGNS = 14;
    private static final int MOST_IN_ROW = 5;
    private static final int MOST_NEEDED = 8;
    private static final int SHEETS = 4;
    private static final int MOST_NUMBERS = 60;
    private static final int MOST_KEPT = 16;

    private static final int A_HAND = 0;
    private static final int TRAINED = 1;
    private static final int LEADER = 2;
    private static final int KINDS = 4;
    private static final int[] WORTH_OF_KIND = {2, 2, 3, 0};

    /** What is led of the ROLL. */
    private static final int CAME = 1;
    private static final int WENT = 2;
    /** What is led of SLEEP. */
    private static final int FELL_ASLEEP = 3;
    private static final int LOOKED = 4;
    private static final int WOKE = 5;

    private static final int UNLOOKED_SLOTS = 2;
    private static final int HOURS_OF_A_DAY = 10;
    private static final int MOST_FUNDED = 30;
    private static final int MOST_RATE = 99;
    private static final int LAST_FREE_SLOT = 54;
    private static final int LATE_FEE = 5;

    /** The signs of the ratio. */
    private static final int COUNTED_YOUNG = 1;
    private static final int COUNTED_MIDDLE = 2;
    private static final int COUNTED_OLD = 3;
    private static final int COUNTED_ASLEEP = 4;
    private static final int COUNTED_ROOM = 5;
    private static final int COUNTED_ALL = 6;
    private static final int FIRST_NUMBER = 10;
    private static final int SUM = 50;
    private static final int LESS = 51;
    private static final int PRODUCT = 52;
    private static final int QUOTIENT = 53;
    private static final int GREATER = 54;

    private final Nursery nursery = new Nursery();
    private final History history = new History();
    private final Reckoning reckoning = new Reckoning();
    private final Planner planner = new Planner();
    private final ShiftPlan shiftPlan = new ShiftPlan();
    private final Sheet[] sheets = new Sheet[SHEETS];
    private int findings;

    public SmallRooms() {
        for (int s = 0; s < SHEETS; s++) {
            sheets[s] = new Sheet();
        }
    }

    // ---- rooms, hands, children

    public int room(int ages, int places) {
        int from = ages / 100;
        int to = ages % 100;
        if (ages < 0 || from > OLDEST || to > OLDEST || !isWithin(places, 1, MOST_PLACES)) {
            return finding(BEYOND);
        }
        if (from > to) {
            return finding(SIZE);
        }
        if (nursery.rooms.count >= MOST_ROOMS) {
            return finding(FULL);
        }
        keep();
        return nursery.rooms.add(from, to, places);
    }

    public int hand(int kind) {
        if (!isKind(kind)) {
            return finding(BEYOND);
        }
        if (nursery.hands.count >= MOST_HANDS) {
            return finding(FULL);
        }
        keep();
        return nursery.hands.add(kind);
    }

    public int as(int hand, int kind) {
        if (!nursery.hands.has(hand) || !isKind(kind)) {
            return finding(BEYOND);
        }
        return isUnder(nursery.hands.kind[hand], kind) ? hand : finding(KIND);
    }

    public int child(int birth, int sibling, int sessions, int months) {
        int first = months / 100;
        int last = months % 100;
        boolean known = sibling == NOBODY || nursery.children.has(sibling);
        if (!isWithin(birth, -OLDEST, LAST_MONTH) || !known || !isWithin(sessions, 0, ALL_DAYS)) {
            return finding(BEYOND);
        }
        if (months < 0 || !isMonth(first) || !isMonth(last)) {
            return finding(BEYOND);
        }
        if (first > last) {
            return finding(SIZE);
        }
        if (nursery.children.count >= MOST_CHILDREN) {
            return finding(FULL);
        }
        keep();
        return nursery.children.add(birth, sibling, sessions, first, last);
    }

    public int childIs(int child, int what) {
        Children children = nursery.children;
        if (!children.has(child)) {
            return finding(BEYOND);
        }
        switch (what) {
            case 0: return children.birth[child];
            case 1: return children.sibling[child];
            case 2: return children.sessions[child];
            case 3: return children.first[child];
            case 4: return children.last[child];
            case 5: return children.room[child];
            case 6: return oneIf(hasBit(children.asleep, child));
            case 7: return oneIf(hasBit(children.admitted, child));
            case 8: return children.persons[child];
            default: return finding(BEYOND);
        }
    }

    public int roomOf(int child, int month) {
        if (!nursery.children.has(child) || !isMonth(month)) {
            return finding(BEYOND);
        }
        int room = nursery.roomInMonth(child, month);
        return room == NOWHERE ? finding(NONE) : room;
    }

    public int month(int v) {
        if (!isMonth(v)) {
            return finding(BEYOND);
        }
        keep();
        int was = nursery.month;
        nursery.month = v;
        return was;
    }

    // ---- the day

    public int slot(int v) {
        if (!isSlot(v)) {
            return finding(BEYOND);
        }
        if (v < nursery.slot) {
            return finding(SIZE);
        }
        keep();
        int was = nursery.slot;
        nursery.slot = v;
        return was;
    }

    public int day() {
        keep();
        int were = nursery.children.countIn();
        nursery.beginDay();
        return were;
    }

    public int in(int child, int room) {
        if (!nursery.children.has(child) || !nursery.rooms.has(room)) {
            return finding(BEYOND);
        }
        if (nursery.children.room[child] != NOWHERE) {
            return finding(TAKEN);
        }
        int refused = nursery.refusal(child, room);
        if (refused != FINE) {
            return finding(refused);
        }
        keep();
        nursery.children.room[child] = room;
        nursery.roll.lead(nursery.slot, child, CAME);
        return Integer.bitCount(nursery.children.inRoom(room));
    }

    public int to(int child, int room) {
        if (!nursery.children.has(child) || !nursery.rooms.has(room)) {
            return finding(BEYOND);
        }
        int was = nursery.children.room[child];
        if (was == NOWHERE) {
            return finding(NONE);
        }
        if (was == room) {
            return finding(TAKEN);
        }
        int refused = nursery.refusal(child, room);
        if (refused != FINE) {
            return finding(refused);
        }
        keep();
        nursery.children.room[child] = room;
        return was;
    }

    public int over(int child, int person) {
        if (!nursery.children.has(child) || !isPerson(person)) {
            return finding(BEYOND);
        }
        if (nursery.children.room[child] == NOWHERE) {
            return finding(NONE);
        }
        if (!hasBit(nursery.children.persons[child], person)) {
            return finding(BARRED);
        }
        keep();
        nursery.goOut(child);
        return 1;
    }

    public int fetches(int child, int person, boolean is) {
        if (!nursery.children.has(child) || !isPerson(person)) {
            return finding(BEYOND);
        }
        keep();
        int were = nursery.children.persons[child];
        int are = is ? with(were, person) : without(were, person);
        nursery.children.persons[child] = are;
        return oneIf(are != were);
    }

    public int place(int hand, int room) {
        if (!nursery.hands.has(hand) || !(room == NOWHERE || nursery.rooms.has(room))) {
            return finding(BEYOND);
        }
        if (hasBit(nursery.hands.ill, hand)) {
            return finding(NONE);
        }
        keep();
        int was = nursery.hands.room[hand];
        nursery.hands.room[hand] = room;
        return was;
    }

    public int ill(int hand) {
        if (!nursery.hands.has(hand)) {
            return finding(BEYOND);
        }
        if (hasBit(nursery.hands.ill, hand)) {
            return finding(TAKEN);
        }
        keep();
        int was = nursery.hands.room[hand];
        nursery.hands.room[hand] = NOWHERE;
        nursery.hands.ill = with(nursery.hands.ill, hand);
        return was;
    }

    public int now(int room, int what) {
        if (!nursery.rooms.has(room)) {
            return finding(BEYOND);
        }
        switch (what) {
            case 0: return nursery.children.inRoom(room);
            case 1: return nursery.hands.inRoom(room);
            case 2: return reckoning.needOf(nursery, room);
            case 3: return nursery.hands.worthIn(room);
            case 4: return oneIf(hasEnough(room));
            default: return finding(BEYOND);
        }
    }

    public int lacking() {
        int lack = 0;
        for (int room = 0; room < nursery.rooms.count; room++) {
            if (!hasEnough(room)) {
                lack = with(lack, room);
            }
        }
        return lack;
    }

    public int moves() {
        return planMoves() ? planner.movedHands() : finding(NONE);
    }

    public int moved(int hand) {
        if (!nursery.hands.has(hand)) {
            return finding(BEYOND);
        }
        if (hasBit(nursery.hands.ill, hand) || !planMoves()) {
            return finding(NONE);
        }
        return planner.roomFor(hand);
    }

    public int move() {
        if (!planMoves()) {
            return finding(NONE);
        }
        keep();
        for (int hand = 0; hand < nursery.hands.count; hand++) {
            if (!hasBit(nursery.hands.ill, hand)) {
                nursery.hands.room[hand] = planner.roomFor(hand);
            }
        }
        return planner.movedHands();
    }

    // ---- rolls, sleeps

    public int roll(int slot, int child) {
        if (!isSlot(slot) || !(child == NOBODY || nursery.children.has(child))) {
            return finding(BEYOND);
        }
        if (child != NOBODY) {
            return oneIf(nursery.roll.wasIn(child, slot));
        }
        int were = 0;
        for (int each = 0; each < nursery.children.count; each++) {
            were += oneIf(nursery.roll.wasIn(each, slot));
        }
        return were;
    }

    public int sleeps(int child, boolean is) {
        if (!nursery.children.has(child)) {
            return finding(BEYOND);
        }
        if (nursery.children.room[child] == NOWHERE) {
            return finding(NONE);
        }
        keep();
        int were = nursery.children.asleep;
        nursery.children.asleep = is ? with(were, child) : without(were, child);
        if (nursery.children.asleep == were) {
            return 0;
        }
        nursery.sleep.lead(nursery.slot, child, is ? FELL_ASLEEP : WOKE);
        return 1;
    }

    public int look(int child) {
        if (!nursery.children.has(child)) {
            return finding(BEYOND);
        }
        if (!hasBit(nursery.children.asleep, child)) {
            return finding(NONE);
        }
        keep();
        nursery.sleep.lead(nursery.slot, child, LOOKED);
        return nursery.sleep.countOf(LOOKED);
    }

    public int missed(int child, boolean first) {
        if (!nursery.children.has(child)) {
            return finding(BEYOND);
        }
        if (!first) {
            return nursery.sleep.missedOf(child, nursery.slot);
        }
        int slot = nursery.sleep.firstMissedOf(child, nursery.slot);
        return slot == NEVER ? finding(NONE) : slot;
    }

    // ---- shifts

    public int needed(int from, int to, int n) {
        if (!isSlot(from) || !isSlot(to) || from > to || !isWithin(n, 0, MOST_NEEDED)) {
            return finding(BEYOND);
        }
        keep();
        for (int slot = from; slot <= to; slot++) {
            nursery.needed[slot] = n;
        }
        return to - from + 1;
    }

    public int longer(int v) {
        if (!isWithin(v, 1, SLOTS)) {
            return finding(BEYOND);
        }
        keep();
        int was = nursery.longSlots;
        nursery.longSlots = v;
        return was;
    }

    public int shifts(int i) {
        if (i < -1) {
            return finding(BEYOND);
        }
        int fewest = shiftPlan.plan(nursery.needed, nursery.longSlots);
        if (i == -1) {
            return fewest;
        }
        return i < fewest ? shiftPlan.beginOf(i) : finding(NONE);
    }

    public int proves(int s) {
        int unfit = sheetFinding(s);
        if (unfit != FINE) {
            return finding(unfit);
        }
        Sheet told = sheets[s];
        if (!told.rises() || !told.isAllWithin(0, SLOTS - nursery.longSlots)) {
            return finding(KIND);
        }
        int fewest = shiftPlan.plan(nursery.needed, nursery.longSlots);
        shiftPlan.take(told);
        int lack = shiftPlan.firstLacking(nursery.needed, nursery.longSlots);
        if (lack != NEVER) {
            return lack;
        }
        return told.size > fewest ? SLOTS : -1;
    }

    // ---- places ahead, bills

    public int waits(int child) {
        if (!nursery.children.has(child)) {
            return finding(BEYOND);
        }
        if (nursery.children.isWaiting(child) || hasBit(nursery.children.admitted, child)) {
            return finding(TAKEN);
        }
        keep();
        nursery.children.addWaiter(child);
        return nursery.children.waiters;
    }

    public int list(int i) {
        if (i < 0) {
            return finding(BEYOND);
        }
        int who = nursery.children.waiterAt(i);
        return who == NOBODY ? finding(NONE) : who;
    }

    public int earliest(int child) {
        int least = leastMonth(child);
        return least < 0 ? finding(least) : least;
    }

    public int admit(int child) {
        int least = leastMonth(child);
        if (least < 0) {
            return finding(least);
        }
        keep();
        nursery.children.first[child] = least;
        nursery.children.admitted = with(nursery.children.admitted, child);
        nursery.children.removeWaiter(child);
        return least;
    }

    public int places(int room, int day, int month) {
        if (!nursery.rooms.has(room) || !isWithin(day, 0, DAYS - 1) || !isMonth(month)) {
            return finding(BEYOND);
        }
        return nursery.placesTaken(room, day, month);
    }

    public int rate(int v) {
        if (!isWithin(v, 1, MOST_RATE)) {
            return finding(BEYOND);
        }
        keep();
        int was = nursery.rate;
        nursery.rate = v;
        return was;
    }

    public int bill(int child, int away, int funded, boolean term) {
        boolean known = nursery.children.has(child);
        if (!known || !isWithin(away, 0, ALL_DAYS) || !isWithin(funded, 0, MOST_FUNDED)) {
            return finding(BEYOND);
        }
        int days = Integer.bitCount(nursery.children.sessions[child] & ~away);
        int hours = Math.max(0, days * HOURS_OF_A_DAY - (term ? funded : 0));
        int late = Math.max(0, nursery.roll.latestGoingOut(child) - LAST_FREE_SLOT);
        return hours * nursery.rate + late * LATE_FEE;
    }

    // ---- the text, sheets, the whole

    public int text(int s) {
        int unfit = sheetFinding(s);
        if (unfit != FINE) {
            return finding(unfit);
        }
        Sheet told = sheets[s];
        if (told.size > MOST_SIGNS) {
            return finding(SIZE);
        }
        if (!told.isAllSigns()) {
            return finding(BEYOND);
        }
        keep();
        nursery.ratio.read(told);
        return told.size;
    }

    public int wrong() {
        return nursery.ratio.wrongAt;
    }

    public int sheet(int s, int bits, int n) {
        if (!isSheet(s) || !(bits == 0 || bits == 8 || bits == 16 || bits == 32)) {
            return finding(BEYOND);
        }
        if (n < 0) {
            return finding(SIZE);
        }
        if (n > MOST_NUMBERS) {
            return finding(BEYOND);
        }
        sheets[s].begin(bits, bits == 0 ? 0 : n);
        return sheets[s].size;
    }

    public int put(int s, int i, int v) {
        int unfit = sheetFinding(s);
        if (unfit != FINE) {
            return finding(unfit);
        }
        if (!isWithin(i, 0, sheets[s].size - 1)) {
            return finding(BEYOND);
        }
        sheets[s].write(i, v);
        return 0;
    }

    public int copy(int s, int from, int t, int to, int n) {
        if (!isSheet(s) || !isSheet(t)) {
            return finding(BEYOND);
        }
        Sheet source = sheets[s];
        Sheet target = sheets[t];
        if (source.isMissing() || target.isMissing()) {
            return finding(MISSING);
        }
        if (source.bits != target.bits) {
            return finding(KIND);
        }
        if (!source.hasStretch(from, n) || !target.hasStretch(to, n)) {
            return finding(BEYOND);
        }
        System.arraycopy(source.numbers, from, target.numbers, to, n);
        return n;
    }

    public int undo() {
        if (history.count == 0) {
            return finding(NONE);
        }
        history.bringBack(nursery);
        return history.count;
    }

    public int all(int what) {
        switch (what) {
            case 0: return nursery.rooms.count;
            case 1: return nursery.hands.count;
            case 2: return nursery.children.count;
            case 3: return nursery.children.countIn();
            case 4: return nursery.slot;
            case 5: return nursery.roll.count;
            case 6: return nursery.sleep.count;
            case 7: return findings;
            default: return finding(BEYOND);
        }
    }

    // ---- helpers of the calls

    private int finding(int which) {
        findings++;
        return which;
    }

    private void keep() {
        history.add(nursery);
    }

    private int sheetFinding(int s) {
        if (!isSheet(s)) {
            return BEYOND;
        }
        return sheets[s].isMissing() ? MISSING : FINE;
    }

    private boolean hasEnough(int room) {
        int there = nursery.hands.inRoom(room);
        boolean trainedEnough = nursery.children.inRoom(room) == 0
            || (there & nursery.hands.trained()) != 0;
        return trainedEnough && nursery.hands.worthIn(room) >= reckoning.needOf(nursery, room);
    }

    private boolean planMoves() {
        planner.begin(nursery.hands);
        for (int room = 0; room < nursery.rooms.count; room++) {
            boolean children = nursery.children.inRoom(room) != 0;
            planner.fill(nursery.hands, room, reckoning.needOf(nursery, room), children);
        }
        return planner.isPossible();
    }

    /** The least month from which on a child can be admitted, or the finding that is due. */
    private int leastMonth(int child) {
        if (!nursery.children.has(child)) {
            return BEYOND;
        }
        if (hasBit(nursery.children.admitted, child)) {
            return TAKEN;
        }
        int least = nursery.earliestMonth(child);
        return least == NEVER ? NONE : least;
    }

    private static boolean isWithin(int v, int least, int most) {
        return v >= least && v <= most;
    }

    private static boolean isKind(int v) {
        return isWithin(v, 0, KINDS - 1);
    }

    private static boolean isMonth(int v) {
        return isWithin(v, 0, LAST_MONTH);
    }

    private static boolean isSlot(int v) {
        return isWithin(v, 0, SLOTS - 1);
    }

    private static boolean isPerson(int v) {
        return isWithin(v, 0, PERSONS - 1);
    }

    private static boolean isSheet(int v) {
        return isWithin(v, 0, SHEETS - 1);
    }

    private static boolean isUnder(int kind, int above) {
        return kind == above || above == A_HAND || kind == LEADER && above == TRAINED;
    }

    private static boolean hasBit(int set, int bit) {
        return (set >> bit & 1) != 0;
    }

    private static int with(int set, int bit) {
        return set | 1 << bit;
    }

    private static int without(int set, int bit) {
        return set & ~(1 << bit);
    }

    private static int oneIf(boolean holds) {
        return holds ? 1 : 0;
    }

    private static long quotientUpwards(long whole, long by) {
        return by <= 0 ? 0 : -Math.floorDiv(-whole, by);
    }

    private static final class Rooms {
        int count;
        final int[] from = new int[MOST_ROOMS];
        final int[] to = new int[MOST_ROOMS];
        final int[] most = new int[MOST_ROOMS];

        boolean has(int room) {
            return room >= 0 && room < count;
        }

        int add(int first, int last, int placesOfIt) {
            from[count] = first;
            to[count] = last;
            most[count] = placesOfIt;
            count++;
            return count - 1;
        }

        boolean takes(int room, int age) {
            return age >= from[room] && age <= to[room];
        }

        int forAge(int age) {
            for (int room = 0; room < count; room++) {
                if (age >= from[room] && age <= to[room]) {
                    return room;
                }
            }
            return NOWHERE;
        }

        void become(Rooms other) {
            count = other.count;
            System.arraycopy(other.from, 0, from, 0, MOST_ROOMS);
            System.arraycopy(other.to, 0, to, 0, MOST_ROOMS);
            System.arraycopy(other.most, 0, most, 0, MOST_ROOMS);
        }
    }

    private static final class Hands {
        int count;
        final int[] kind = new int[MOST_HANDS];
        final int[] room = new int[MOST_HANDS];
        /** A set. */
        int ill;

        boolean has(int hand) {
            return hand >= 0 && hand < count;
        }

        int add(int kindOfIt) {
            kind[count] = kindOfIt;
            room[count] = NOWHERE;
            ill = without(ill, count);
            count++;
            return count - 1;
        }

        int worth(int hand) {
            return WORTH_OF_KIND[kind[hand]];
        }

        int inRoom(int which) {
            int set = 0;
            for (int hand = 0; hand < count; hand++) {
                if (room[hand] == which) {
                    set = with(set, hand);
                }
            }
            return set;
        }

        int worthIn(int which) {
            int sum = 0;
            for (int hand = 0; hand < count; hand++) {
                if (room[hand] == which) {
                    sum += worth(hand);
                }
            }
            return sum;
        }

        int trained() {
            int set = 0;
            for (int hand = 0; hand < count; hand++) {
                if (isUnder(kind[hand], TRAINED)) {
                    set = with(set, hand);
                }
            }
            return set;
        }

        int able() {
            return (1 << count) - 1 & ~ill;
        }

        void become(Hands other) {
            count = other.count;
            System.arraycopy(other.kind, 0, kind, 0, MOST_HANDS);
            System.arraycopy(other.room, 0, room, 0, MOST_HANDS);
            ill = other.ill;
        }
    }

    private static final class Children {
        int count;
        final int[] birth = new int[MOST_CHILDREN];
        final int[] sibling = new int[MOST_CHILDREN];
        final int[] sessions = new int[MOST_CHILDREN];
        final int[] first = new int[MOST_CHILDREN];
        final int[] last = new int[MOST_CHILDREN];
        final int[] room = new int[MOST_CHILDREN];
        final int[] persons = new int[MOST_CHILDREN];
        /** Sets. */
        int asleep;
        int admitted;
        int waiters;
        /** Those who wait, as they were put there. */
        final int[] waiting = new int[MOST_CHILDREN];

        boolean has(int child) {
            return child >= 0 && child < count;
        }

        int add(int born, int siblingOfIt, int days, int from, int to) {
            birth[count] = born;
            sibling[count] = siblingOfIt;
            sessions[count] = days;
            first[count] = from;
            last[count] = to;
            room[count] = NOWHERE;
            persons[count] = 0;
            asleep = without(asleep, count);
            admitted = without(admitted, count);
            count++;
            return count - 1;
        }

        int inRoom(int which) {
            int set = 0;
            for (int child = 0; child < count; child++) {
                if (room[child] == which) {
                    set = with(set, child);
                }
            }
            return set;
        }

        int countIn() {
            return count - Integer.bitCount(inRoom(NOWHERE));
        }

        void allOut() {
            for (int child = 0; child < count; child++) {
                room[child] = NOWHERE;
            }
            asleep = 0;
        }

        boolean areSiblings(int one, int other) {
            if (one == other) {
                return false;
            }
            boolean told = sibling[one] == other || sibling[other] == one;
            return told || sibling[one] != NOBODY && sibling[one] == sibling[other];
        }

        boolean hasAdmittedSibling(int child) {
            for (int other = 0; other < count; other++) {
                if (hasBit(admitted, other) && areSiblings(child, other)) {
                    return true;
                }
            }
            return false;
        }

        boolean isAwaited(int child, int day, int month) {
            boolean then = month >= first[child] && month <= last[child];
            return hasBit(admitted, child) && then && hasBit(sessions[child], day);
        }

        boolean isWaiting(int child) {
            for (int i = 0; i < waiters; i++) {
                if (waiting[i] == child) {
                    return true;
                }
            }
            return false;
        }

        void addWaiter(int child) {
            if (waiters < MOST_CHILDREN) {
                waiting[waiters] = child;
                waiters++;
            }
        }

        void removeWaiter(int child) {
            int left = 0;
            for (int i = 0; i < waiters; i++) {
                if (waiting[i] != child) {
                    waiting[left] = waiting[i];
                    left++;
                }
            }
            waiters = left;
        }

        int waiterAt(int place) {
            int ahead = 0;
            for (int i = 0; i < waiters; i++) {
                ahead += oneIf(hasAdmittedSibling(waiting[i]));
            }
            return place < ahead ? waiterOf(true, place) : waiterOf(false, place - ahead);
        }

        private int waiterOf(boolean siblings, int place) {
            int left = place;
            for (int i = 0; i < waiters; i++) {
                if (hasAdmittedSibling(waiting[i]) == siblings) {
                    if (left == 0) {
                        return waiting[i];
                    }
                    left--;
                }
            }
            return NOBODY;
        }

        void become(Children other) {
            count = other.count;
            waiters = other.waiters;
            System.arraycopy(other.waiting, 0, waiting, 0, MOST_CHILDREN);
            System.arraycopy(other.birth, 0, birth, 0, MOST_CHILDREN);
            System.arraycopy(other.sibling, 0, sibling, 0, MOST_CHILDREN);
            System.arraycopy(other.sessions, 0, sessions, 0, MOST_CHILDREN);
            System.arraycopy(other.first, 0, first, 0, MOST_CHILDREN);
            System.arraycopy(other.last, 0, last, 0, MOST_CHILDREN);
            System.arraycopy(other.room, 0, room, 0, MOST_CHILDREN);
            System.arraycopy(other.persons, 0, persons, 0, MOST_CHILDREN);
            asleep = other.asleep;
            admitted = other.admitted;
        }
    }

    /** The latest that is led, the oldest first: of the ROLL, or of SLEEP. */
    private static final class Log {
        int count;
        final int[] slots = new int[MOST_LED];
        final int[] children = new int[MOST_LED];
        final int[] acts = new int[MOST_LED];

        void lead(int slot, int child, int act) {
            if (count >= MOST_LED) {
                dropOldest();
            }
            slots[count] = slot;
            children[count] = child;
            acts[count] = act;
            count++;
        }

        private void dropOldest() {
            count = MOST_LED - 1;
            System.arraycopy(slots, 1, slots, 0, count);
            System.arraycopy(children, 1, children, 0, count);
            System.arraycopy(acts, 1, acts, 0, count);
        }

        int countOf(int act) {
            int sum = 0;
            for (int i = 0; i < count; i++) {
                sum += oneIf(acts[i] == act);
            }
            return sum;
        }

        boolean wasIn(int child, int slot) {
            boolean is = false;
            for (int i = 0; i < count; i++) {
                if (children[i] == child && slots[i] <= slot) {
                    is = acts[i] == CAME;
                }
            }
            return is;
        }

        int latestGoingOut(int child) {
            int latest = 0;
            for (int i = 0; i < count; i++) {
                if (children[i] == child && acts[i] == WENT) {
                    latest = slots[i];
                }
            }
            return latest;
        }

        int missedOf(int child, int nowSlot) {
            int sum = 0;
            for (int i = 0; i < count; i++) {
                sum += oneIf(children[i] == child && isMissedFrom(i, nowSlot));
            }
            return sum;
        }

        int firstMissedOf(int child, int nowSlot) {
            for (int i = 0; i < count; i++) {
                if (children[i] == child && isMissedFrom(i, nowSlot)) {
                    return slots[i];
                }
            }
            return NEVER;
        }

        /** Whatever is led next of the same child ends a stretch, since one that sleeps can't fall asleep. */
        private boolean isMissedFrom(int i, int nowSlot) {
            if (acts[i] == WOKE) {
                return false;
            }
            int end = nowSlot;
            for (int next = count - 1; next > i; next--) {
                if (children[next] == children[i]) {
                    end = slots[next];
                }
            }
            return end - slots[i] > UNLOOKED_SLOTS;
        }

        void become(Log other) {
            count = other.count;
            System.arraycopy(other.slots, 0, slots, 0, MOST_LED);
            System.arraycopy(other.children, 0, children, 0, MOST_LED);
            System.arraycopy(other.acts, 0, acts, 0, MOST_LED);
        }
    }

    /** The text of the ratio. */
    private static final class Ratio {
        int count;
        int wrongAt;
        final int[] signs = new int[MOST_SIGNS];

        void read(Sheet told) {
            count = Math.min(told.size, MOST_SIGNS);
            System.arraycopy(told.numbers, 0, signs, 0, count);
            wrongAt = firstWrong();
        }

        static boolean isSign(int v) {
            return isWithin(v, COUNTED_YOUNG, COUNTED_ALL) || isWithin(v, FIRST_NUMBER, GREATER);
        }

        private int firstWrong() {
            int depth = 0;
            for (int i = 0; i < count; i++) {
                boolean joins = signs[i] >= SUM;
                if (joins ? depth < 2 : depth >= MOST_IN_ROW) {
                    return i;
                }
                depth += joins ? -1 : 1;
            }
            return depth == 1 ? RIGHT : count;
        }

        void become(Ratio other) {
            count = other.count;
            wrongAt = other.wrongAt;
            System.arraycopy(other.signs, 0, signs, 0, MOST_SIGNS);
        }
    }

    /** All that undo() takes back. */
    private static final class Nursery {
        final Rooms rooms = new Rooms();
        final Hands hands = new Hands();
        final Children children = new Children();
        final Log roll = new Log();
        final Log sleep = new Log();
        final Ratio ratio = new Ratio();
        final int[] needed = new int[SLOTS];
        int month;
        int slot;
        int longSlots = 36;
        int rate = 10;

        int ageNow(int child) {
            return month - children.birth[child];
        }

        int roomInMonth(int child, int when) {
            return rooms.forAge(when - children.birth[child]);
        }

        /** Why a room can't have a child now. */
        int refusal(int child, int room) {
            if (!rooms.takes(room, ageNow(child))) {
                return KIND;
            }
            return Integer.bitCount(children.inRoom(room)) >= rooms.most[room] ? FULL : FINE;
        }

        void goOut(int child) {
            children.room[child] = NOWHERE;
            roll.lead(slot, child, WENT);
            if (hasBit(children.asleep, child)) {
                children.asleep = without(children.asleep, child);
                sleep.lead(slot, child, WOKE);
            }
        }

        void beginDay() {
            slot = 0;
            children.allOut();
            hands.ill = 0;
            roll.count = 0;
            sleep.count = 0;
        }

        int placesTaken(int room, int day, int when) {
            int sum = 0;
            for (int child = 0; child < children.count; child++) {
                if (children.isAwaited(child, day, when) && roomInMonth(child, when) == room) {
                    sum++;
                }
            }
            return sum;
        }

        private boolean fits(int child, int when) {
            int room = roomInMonth(child, when);
            if (room == NOWHERE) {
                return true;
            }
            for (int day = 0; day < DAYS; day++) {
                boolean comes = hasBit(children.sessions[child], day);
                if (comes && placesTaken(room, day, when) >= rooms.most[room]) {
                    return false;
                }
            }
            return true;
        }

        /** Backwards: a month that doesn't fit bars all that begin in it or ahead. */
        int earliestMonth(int child) {
            int least = NEVER;
            for (int when = children.last[child]; when >= children.first[child]; when--) {
                if (!fits(child, when)) {
                    return least;
                }
                least = when;
            }
            return least;
        }

        void become(Nursery other) {
            rooms.become(other.rooms);
            hands.become(other.hands);
            children.become(other.children);
            roll.become(other.roll);
            sleep.become(other.sleep);
            ratio.become(other.ratio);
            System.arraycopy(other.needed, 0, needed, 0, SLOTS);
            month = other.month;
            slot = other.slot;
            longSlots = other.longSlots;
            rate = other.rate;
        }
    }

    /** What the nursery was ahead of the latest acts; rows are made at first use and used again. */
    private static final class History {
        int count;
        private int next;
        private final Nursery[] kept = new Nursery[MOST_KEPT];

        void add(Nursery nursery) {
            if (kept[next] == null) {
                kept[next] = new Nursery();
            }
            kept[next].become(nursery);
            next = (next + 1) % MOST_KEPT;
            count = Math.min(count + 1, MOST_KEPT);
        }

        void bringBack(Nursery nursery) {
            int latest = (next + MOST_KEPT - 1) % MOST_KEPT;
            if (count > 0 && kept[latest] != null) {
                nursery.become(kept[latest]);
                next = latest;
                count--;
            }
        }
    }

    /** Works the ratio out; in long, since seven numbers of 39 multiplied are beyond int. */
    private static final class Reckoning {
        private final int[] counted = new int[COUNTED_ALL + 1];
        private final long[] row = new long[MOST_IN_ROW];

        int needOf(Nursery nursery, int room) {
            countChildren(nursery, room);
            long need = nursery.ratio.wrongAt == RIGHT ? workOut(nursery.ratio) : usualNeed();
            return (int) Math.max(0, Math.min(need, GREATEST_INT));
        }

        private void countChildren(Nursery nursery, int room) {
            Arrays.fill(counted, 0);
            counted[COUNTED_ROOM] = room;
            for (int child = 0; child < nursery.children.count; child++) {
                if (nursery.children.room[child] == room) {
                    counted[ageGroup(nursery.ageNow(child))]++;
                    counted[COUNTED_ASLEEP] += oneIf(hasBit(nursery.children.asleep, child));
                    counted[COUNTED_ALL]++;
                }
            }
        }

        private static int ageGroup(int age) {
            if (age < 24) {
                return COUNTED_YOUNG;
            }
            return age < 36 ? COUNTED_MIDDLE : COUNTED_OLD;
        }

        private long usualNeed() {
            return 2 * (quotientUpwards(counted[COUNTED_YOUNG], 3)
                + quotientUpwards(counted[COUNTED_MIDDLE], 4)
                + quotientUpwards(counted[COUNTED_OLD], 8));
        }

        private long workOut(Ratio ratio) {
            int depth = 0;
            for (int i = 0; i < ratio.count; i++) {
                int sign = ratio.signs[i];
                if (sign >= SUM && depth >= 2) {
                    depth--;
                    row[depth - 1] = joined(sign, row[depth - 1], row[depth]);
                } else if (sign < SUM && depth < MOST_IN_ROW) {
                    row[depth] = numberOf(sign);
                    depth++;
                }
            }
            return row[0];
        }

        private int numberOf(int sign) {
            if (sign >= FIRST_NUMBER) {
                return sign - FIRST_NUMBER;
            }
            return isWithin(sign, COUNTED_YOUNG, COUNTED_ALL) ? counted[sign] : 0;
        }

        private static long joined(int sign, long one, long other) {
            switch (sign) {
                case SUM: return one + other;
                case LESS: return one - other;
                case PRODUCT: return one * other;
                case QUOTIENT: return quotientUpwards(one, other);
                default: return Math.max(one, other);
            }
        }
    }

    /**
     * The moves, found room by room over the sets of hands that are given a room already.
     * A cost holds the moves and, below them, the choice of each hand as a digit to the base
     * of 6 (none 0, room r r + 1; the first hand's is the highest), so that the least cost
     * is that of the fewest moves and, of those, of the first choices.
     */
    private static final class Planner {
        private static final int SETS = 1 << MOST_HANDS;
        private static final int CHOICES = MOST_ROOMS + 1;
        private static final int[] DIGIT_OF_HAND = {46656, 7776, 1296, 216, 36, 6, 1};
        private static final int A_MOVE = 279936;
        private static final int NO_WAY = GREATEST_INT;

        private final int[] least = new int[SETS];
        private final int[] cost = new int[SETS];
        private final int[] worth = new int[SETS];
        private int able;
        private int trained;

        void begin(Hands hands) {
            able = hands.able();
            trained = hands.trained();
            sumWorths(hands);
            int out = hands.inRoom(NOWHERE);
            for (int set = 0; set < SETS; set++) {
                least[set] = (set & ~out) == 0 ? 0 : NO_WAY;
            }
        }

        private void sumWorths(Hands hands) {
            for (int hand = 0; hand < hands.count; hand++) {
                addForHand(worth, hand, hands.worth(hand));
            }
        }

        private void sumCosts(Hands hands, int room) {
            for (int hand = 0; hand < hands.count; hand++) {
                int moving = hands.room[hand] == room ? 0 : A_MOVE;
                addForHand(cost, hand, moving + (room + 1) * DIGIT_OF_HAND[hand]);
            }
        }

        /** The sets whose greatest hand is this one are those without it, and it. */
        private static void addForHand(int[] sums, int hand, int v) {
            int bit = 1 << hand;
            for (int rest = 0; rest < bit; rest++) {
                sums[bit + rest] = sums[rest] + v;
            }
        }

        void fill(Hands hands, int room, int need, boolean children) {
            sumCosts(hands, room);
            // Downwards, since a set's new cost is made of the old ones of lesser sets.
            int set = able;
            for (int left = partsOf(able); left > 0; left--) {
                least[set] = leastWith(set, need, children);
                set = (set - 1) & able;
            }
        }

        private int leastWith(int set, int need, boolean children) {
            int best = NO_WAY;
            int part = set;
            for (int left = partsOf(set); left > 0; left--) {
                boolean enough = worth[part] >= need && (!children || (part & trained) != 0);
                int others = least[set ^ part];
                if (enough && others != NO_WAY) {
                    best = Math.min(best, others + cost[part]);
                }
                part = (part - 1) & set;
            }
            return best;
        }

        /** One less, and only the set's own bits, leads from each part to the next lesser one. */
        private static int partsOf(int set) {
            return 1 << Integer.bitCount(set);
        }

        boolean isPossible() {
            return least[able] != NO_WAY;
        }

        int movedHands() {
            return least[able] / A_MOVE;
        }

        int roomFor(int hand) {
            return least[able] / DIGIT_OF_HAND[hand] % CHOICES - 1;
        }
    }

    /** How many shifts begin in each slot. */
    private static final class ShiftPlan {
        private final int[] begins = new int[SLOTS];

        /** Lays out THE SHIFTS and tells how many they are. */
        int plan(int[] needed, int longSlots) {
            Arrays.fill(begins, 0);
            int there = 0;
            int fewest = 0;
            for (int slot = 0; slot < SLOTS; slot++) {
                there -= endedAt(slot, longSlots);
                int lack = Math.max(0, needed[slot] - there);
                begins[Math.min(slot, SLOTS - longSlots)] += lack;
                there += lack;
                fewest += lack;
            }
            return fewest;
        }

        private int endedAt(int slot, int longSlots) {
            return slot >= longSlots ? begins[slot - longSlots] : 0;
        }

        int beginOf(int i) {
            int ahead = 0;
            for (int slot = 0; slot < SLOTS; slot++) {
                ahead += begins[slot];
                if (i < ahead) {
                    return slot;
                }
            }
            return NEVER;
        }

        void take(Sheet told) {
            Arrays.fill(begins, 0);
            for (int i = 0; i < told.size; i++) {
                if (isSlot(told.numbers[i])) {
                    begins[told.numbers[i]]++;
                }
            }
        }

        int firstLacking(int[] needed, int longSlots) {
            int there = 0;
            for (int slot = 0; slot < SLOTS; slot++) {
                there += begins[slot] - endedAt(slot, longSlots);
                if (there < needed[slot]) {
                    return slot;
                }
            }
            return NEVER;
        }
    }

    /** A sheet; of 0 bits it is missing. */
    private static final class Sheet {
        int bits;
        int size;
        final int[] numbers = new int[MOST_NUMBERS];

        boolean isMissing() {
            return bits == 0;
        }

        void begin(int bitsOfIt, int n) {
            bits = bitsOfIt;
            size = n;
            Arrays.fill(numbers, 0);
        }

        void write(int i, int v) {
            switch (bits) {
                case 8: numbers[i] = (byte) v; break;
                case 16: numbers[i] = (short) v; break;
                default: numbers[i] = v; break;
            }
        }

        /** Told by what is left of it, since from and n together may be beyond int. */
        boolean hasStretch(int from, int n) {
            return from >= 0 && n >= 0 && from <= size && n <= size - from;
        }

        boolean rises() {
            for (int i = 1; i < size; i++) {
                if (numbers[i] < numbers[i - 1]) {
                    return false;
                }
            }
            return true;
        }

        boolean isAllWithin(int least, int most) {
            for (int i = 0; i < size; i++) {
                if (!isWithin(numbers[i], least, most)) {
                    return false;
                }
            }
            return true;
        }

        boolean isAllSigns() {
            for (int i = 0; i < size; i++) {
                if (!Ratio.isSign(numbers[i])) {
                    return false;
                }
            }
            return true;
        }
    }
}
