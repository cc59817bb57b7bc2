/** Each promise of the document by itself: ordinary inputs, its edges, wrong inputs. */
public final class PromiseTest {
    private static final int BEYOND = -100001, MISSING = -100002, SIZE = -100003, KIND = -100004;
    private static final int FULL = -100005, NONE = -100006, TAKEN = -100007, BARRED = -100008;
    private static final int LOW = Integer.MIN_VALUE, HIGH = Integer.MAX_VALUE;
    private static final Due DUE = new Due("promises");

    private static SmallRooms x;
    private static int promise;

    private static void due(int want, int got) {
        int line = Thread.currentThread().getStackTrace()[2].getLineNumber();
        DUE.is("promise " + promise + ", line " + line, want, got);
    }

    private static void begin(int number) {
        promise = number;
        x = new SmallRooms();
    }

    /** Three rooms by ages, as in the document's usual ratio. */
    private static void threeRooms() {
        due(0, x.room(23, 3));
        due(1, x.room(2435, 4));
        due(2, x.room(3671, 8));
    }

    private static void hands(int... kinds) {
        for (int kind : kinds) {
            x.hand(kind);
        }
    }

    /** Children of all ages' first room: born in month 0 less their age. */
    private static void children(int... ages) {
        for (int age : ages) {
            x.child(-age, -1, 31, 60);
        }
    }

    private static void write(int s, int bits, int... numbers) {
        due(numbers.length, x.sheet(s, bits, numbers.length));
        for (int i = 0; i < numbers.length; i++) {
            due(0, x.put(s, i, numbers[i]));
        }
    }

    private static void ratio(int... signs) {
        write(3, 8, signs);
        due(signs.length, x.text(3));
    }

    public static void main(String[] args) {
        newObject();
        room();
        hand();
        as();
        child();
        childIs();
        roomOf();
        month();
        slot();
        day();
        in();
        to();
        over();
        fetches();
        place();
        ill();
        now();
        usualNeedByAges();
        ratioSigns();
        ratioEdges();
        lacking();
        moves();
        movesInOrder();
        movesOfSeven();
        moved();
        move();
        roll();
        sleeps();
        look();
        missed();
        missedOfForty();
        needed();
        longer();
        shifts();
        proves();
        waits();
        list();
        earliest();
        earliestByDays();
        admit();
        places();
        rate();
        bill();
        text();
        wrong();
        sheet();
        put();
        copy();
        undo();
        undoEach();
        undoOfMore();
        all();
        DUE.end();
    }

    private static void newObject() {
        begin(1);
        for (int what = 0; what < 8; what++) {
            due(0, x.all(what));
        }
        due(0, x.wrong());
        due(0, x.lacking());
        due(0, x.moves());
        due(0, x.shifts(-1));
        for (int s = 0; s < 4; s++) {
            due(MISSING, x.put(s, 0, 0));
        }
        due(NONE, x.undo());
        due(36, x.longer(1));
        due(0, x.month(1));
        due(0, x.slot(1));
        due(10, x.rate(1));
    }

    private static void room() {
        begin(2);
        for (int ages : new int[] {-1, LOW, 72, 99, 7172, 7200, 7271, HIGH}) {
            due(BEYOND, x.room(ages, 1));
        }
        for (int most : new int[] {0, 21, LOW, HIGH}) {
            due(BEYOND, x.room(71, most));
            due(BEYOND, x.room(100, most));
        }
        due(SIZE, x.room(100, 1));
        due(SIZE, x.room(7170, 20));
        due(0, x.room(0, 1));
        due(1, x.room(7171, 20));
        due(2, x.room(71, 20));
        due(3, x.room(71, 20));
        due(4, x.room(71, 20));
        due(FULL, x.room(71, 20));
        due(SIZE, x.room(100, 20));
        due(BEYOND, x.room(72, 20));
        due(5, x.all(0));
    }

    private static void hand() {
        begin(3);
        for (int kind : new int[] {-1, 4, LOW, HIGH}) {
            due(BEYOND, x.hand(kind));
        }
        for (int i = 0; i < 7; i++) {
            due(i, x.hand(i % 4));
        }
        due(FULL, x.hand(0));
        due(BEYOND, x.hand(4));
        due(7, x.all(1));
        due(-1, x.place(6, -1));
    }

    private static void as() {
        begin(4);
        hands(0, 1, 2, 3);
        int[][] answers = {{0, KIND, KIND, KIND}, {1, 1, KIND, KIND}, {2, 2, 2, KIND}, {3, KIND, KIND, 3}};
        for (int h = 0; h < 4; h++) {
            for (int kind = 0; kind < 4; kind++) {
                due(answers[h][kind], x.as(h, kind));
            }
        }
        due(BEYOND, x.as(4, 0));
        due(BEYOND, x.as(-1, 0));
        due(BEYOND, x.as(0, 4));
        due(BEYOND, x.as(0, -1));
        due(3, x.undo());
    }

    private static void child() {
        begin(5);
        due(BEYOND, x.child(-72, -1, 0, 0));
        due(BEYOND, x.child(61, -1, 0, 0));
        due(BEYOND, x.child(0, -2, 0, 0));
        due(BEYOND, x.child(0, 0, 0, 0));
        due(BEYOND, x.child(0, -1, -1, 0));
        due(BEYOND, x.child(0, -1, 32, 0));
        for (int months : new int[] {-1, LOW, 61, 6061, 6100, 6160, HIGH}) {
            due(BEYOND, x.child(0, -1, 0, months));
        }
        due(BEYOND, x.child(0, -1, 32, 100));
        due(SIZE, x.child(0, -1, 0, 6059));
        due(0, x.child(-71, -1, 0, 0));
        due(1, x.child(60, 0, 31, 6060));
        due(BEYOND, x.child(0, 2, 0, 0));
        for (int i = 2; i < 10; i++) {
            due(i, x.child(0, i - 1, 1, 60));
        }
        due(FULL, x.child(0, 9, 0, 0));
        due(SIZE, x.child(0, 9, 0, 100));
        due(BEYOND, x.child(0, 10, 0, 0));
        due(10, x.all(2));
    }

    private static void childIs() {
        begin(6);
        due(BEYOND, x.childIs(0, 0));
        x.room(71, 5);
        x.child(-5, -1, 3, 1230);
        x.child(7, 0, 31, 60);
        int[] first = {-5, -1, 3, 12, 30, -1, 0, 0, 0};
        int[] second = {7, 0, 31, 0, 60, -1, 0, 0, 0};
        for (int what = 0; what < 9; what++) {
            due(first[what], x.childIs(0, what));
            due(second[what], x.childIs(1, what));
        }
        x.in(0, 0);
        x.sleeps(0, true);
        x.admit(0);
        x.fetches(0, 0, true);
        x.fetches(0, 15, true);
        due(0, x.childIs(0, 5));
        due(1, x.childIs(0, 6));
        due(1, x.childIs(0, 7));
        due(32769, x.childIs(0, 8));
        due(BEYOND, x.childIs(0, 9));
        due(BEYOND, x.childIs(0, -1));
        due(BEYOND, x.childIs(2, 0));
        due(BEYOND, x.childIs(-1, 0));
    }

    private static void roomOf() {
        begin(7);
        x.room(1020, 1);
        x.room(1530, 1);
        x.room(6071, 1);
        x.child(0, -1, 0, 0);
        x.child(-20, -1, 0, 0);
        x.child(60, -1, 0, 0);
        due(NONE, x.roomOf(0, 0));
        due(NONE, x.roomOf(0, 9));
        due(0, x.roomOf(0, 10));
        due(0, x.roomOf(0, 20));
        due(1, x.roomOf(0, 21));
        due(1, x.roomOf(0, 30));
        due(NONE, x.roomOf(0, 31));
        due(2, x.roomOf(0, 60));
        due(2, x.roomOf(1, 51));
        due(NONE, x.roomOf(1, 52));
        due(NONE, x.roomOf(2, 59));
        due(BEYOND, x.roomOf(0, 61));
        due(BEYOND, x.roomOf(0, -1));
        due(BEYOND, x.roomOf(3, 0));
        due(BEYOND, x.roomOf(-1, 0));
        x.room(9, 1);
        due(3, x.roomOf(0, 9));
        due(3, x.roomOf(2, 60));
    }

    private static void month() {
        begin(8);
        due(0, x.month(60));
        due(60, x.month(0));
        due(0, x.month(0));
        due(BEYOND, x.month(-1));
        due(BEYOND, x.month(61));
        due(0, x.month(5));
        threeRooms();
        children(19);
        due(KIND, x.in(0, 0));
        due(1, x.in(0, 1));
    }

    private static void slot() {
        begin(9);
        due(BEYOND, x.slot(60));
        due(BEYOND, x.slot(-1));
        due(0, x.slot(0));
        due(0, x.slot(7));
        due(SIZE, x.slot(6));
        due(7, x.slot(7));
        due(7, x.slot(59));
        due(BEYOND, x.slot(LOW));
        due(59, x.all(4));
    }

    private static void day() {
        begin(10);
        x.room(71, 5);
        hands(1, 1);
        children(1, 2);
        x.place(0, 0);
        x.place(1, 0);
        x.ill(1);
        x.fetches(0, 3, true);
        x.needed(0, 59, 2);
        x.slot(9);
        x.in(0, 0);
        x.in(1, 0);
        x.sleeps(1, true);
        x.slot(20);
        x.over(0, 3);
        due(1, x.day());
        due(0, x.all(3));
        due(0, x.all(4));
        due(0, x.all(5));
        due(0, x.all(6));
        due(0, x.childIs(1, 6));
        due(0, x.missed(1, false));
        due(0, x.roll(59, -1));
        due(8, x.childIs(0, 8));
        due(4, x.shifts(-1));
        due(1, x.now(0, 1));
        due(-1, x.place(1, 0));
        due(0, x.ill(1));
        due(0, x.day());
        due(1, x.in(0, 0));
        due(2, x.in(1, 0));
        x.sleeps(0, true);
        due(2, x.day());
        due(0, x.now(0, 0));
        due(0, x.childIs(0, 6));
    }

    private static void in() {
        begin(11);
        threeRooms();
        children(0, 23, 24, 5, 6, 36, 71);
        x.child(1, -1, 31, 60);
        due(BEYOND, x.in(8, 0));
        due(BEYOND, x.in(-1, 0));
        due(BEYOND, x.in(0, 3));
        due(BEYOND, x.in(0, -1));
        due(KIND, x.in(7, 0));
        due(KIND, x.in(0, 1));
        due(1, x.in(0, 0));
        due(TAKEN, x.in(0, 0));
        due(TAKEN, x.in(0, 2));
        due(2, x.in(1, 0));
        due(KIND, x.in(2, 0));
        due(3, x.in(3, 0));
        due(KIND, x.in(2, 0));
        due(FULL, x.in(4, 0));
        due(1, x.in(5, 2));
        due(2, x.in(6, 2));
        due(5, x.all(3));
        due(5, x.all(5));
    }

    private static void to() {
        begin(12);
        x.room(71, 2);
        x.room(50, 1);
        x.room(2030, 5);
        children(10, 10, 25);
        due(BEYOND, x.to(3, 0));
        due(BEYOND, x.to(0, 3));
        due(BEYOND, x.to(0, -1));
        due(NONE, x.to(0, 0));
        x.in(0, 0);
        due(TAKEN, x.to(0, 0));
        due(KIND, x.to(0, 2));
        x.sleeps(0, true);
        due(0, x.to(0, 1));
        due(1, x.childIs(0, 5));
        due(1, x.childIs(0, 6));
        due(1, x.all(5));
        x.in(1, 0);
        due(FULL, x.to(1, 1));
        x.in(2, 0);
        due(FULL, x.to(0, 0));
        due(0, x.to(2, 2));
        due(1, x.to(0, 0));
        x.month(50);
        due(KIND, x.to(0, 1));
    }

    private static void over() {
        begin(13);
        x.room(71, 2);
        children(10, 10);
        due(BEYOND, x.over(2, 0));
        due(BEYOND, x.over(0, 16));
        due(BEYOND, x.over(0, -1));
        due(NONE, x.over(0, 0));
        x.fetches(0, 0, true);
        due(NONE, x.over(0, 0));
        x.in(0, 0);
        x.in(1, 0);
        due(BARRED, x.over(0, 1));
        due(BARRED, x.over(1, 0));
        x.sleeps(0, true);
        due(1, x.over(0, 0));
        due(-1, x.childIs(0, 5));
        due(0, x.childIs(0, 6));
        due(3, x.all(5));
        due(2, x.all(6));
        due(NONE, x.over(0, 0));
        x.in(0, 0);
        due(1, x.over(0, 0));
        due(2, x.all(6));
        x.in(0, 0);
        x.fetches(0, 0, false);
        due(BARRED, x.over(0, 0));
    }

    private static void fetches() {
        begin(14);
        children(1, 2);
        due(BEYOND, x.fetches(2, 0, true));
        due(BEYOND, x.fetches(-1, 0, true));
        due(BEYOND, x.fetches(0, 16, true));
        due(BEYOND, x.fetches(0, -1, false));
        due(0, x.fetches(0, 15, false));
        due(1, x.fetches(0, 15, true));
        due(0, x.fetches(0, 15, true));
        due(0, x.childIs(1, 8));
        due(1, x.fetches(0, 15, false));
        due(0, x.childIs(0, 8));
        due(5, x.undo());
        due(32768, x.childIs(0, 8));
    }

    private static void place() {
        begin(15);
        x.room(71, 1);
        x.room(71, 1);
        hands(0, 1);
        due(BEYOND, x.place(2, 0));
        due(BEYOND, x.place(-1, 0));
        due(BEYOND, x.place(0, 2));
        due(BEYOND, x.place(0, -2));
        due(-1, x.place(0, 1));
        due(1, x.place(0, 1));
        due(1, x.place(0, 0));
        due(0, x.place(0, -1));
        due(-1, x.place(0, -1));
        x.ill(0);
        due(NONE, x.place(0, 0));
        due(NONE, x.place(0, -1));
        due(BEYOND, x.place(0, 2));
    }

    private static void ill() {
        begin(16);
        x.room(71, 1);
        hands(0, 1);
        x.place(0, 0);
        due(BEYOND, x.ill(2));
        due(BEYOND, x.ill(-1));
        due(0, x.ill(0));
        due(TAKEN, x.ill(0));
        due(0, x.now(0, 1));
        due(-1, x.ill(1));
        x.day();
        due(-1, x.ill(0));
    }

    private static void now() {
        begin(17);
        threeRooms();
        hands(0, 3, 2, 1);
        children(1, 30, 2, 40);
        due(BEYOND, x.now(3, 0));
        due(BEYOND, x.now(-1, 0));
        due(BEYOND, x.now(0, 5));
        due(BEYOND, x.now(0, -1));
        due(1, x.now(0, 4));
        x.in(0, 0);
        x.in(2, 0);
        due(5, x.now(0, 0));
        due(2, x.now(0, 2));
        due(0, x.now(0, 4));
        x.place(0, 0);
        due(2, x.now(0, 3));
        due(0, x.now(0, 4));
        x.place(1, 0);
        due(3, x.now(0, 1));
        due(2, x.now(0, 3));
        x.place(2, 0);
        due(5, x.now(0, 3));
        due(1, x.now(0, 4));
        x.place(0, -1);
        x.place(1, 1);
        due(3, x.now(0, 3));
        due(1, x.now(0, 4));
        due(0, x.now(1, 3));
        due(1, x.now(1, 4));
        x.place(2, -1);
        x.place(3, 0);
        due(1, x.now(0, 4));
        usualNeed();
    }

    private static void usualNeed() {
        begin(17);
        x.room(71, 20);
        children(0, 10, 23, 22, 24, 35, 36, 71, 40, 50);
        int[] needs = {2, 2, 2, 4, 6, 6, 8, 8, 8, 8};
        for (int c = 0; c < 10; c++) {
            x.in(c, 0);
            due(needs[c], x.now(0, 2));
        }
        x.month(1);
        due(6, x.now(0, 2));
        x.month(60);
        due(4, x.now(0, 2));
        x.month(13);
        due(2 * (1 + 1 + 1), x.now(0, 2));
    }

    private static void usualNeedByAges() {
        int[][] needs = {{0, 2, 2, 2, 4, 4, 4, 6, 6, 6, 8}, {30, 2, 2, 2, 2, 4, 4, 4, 4, 6, 6}, {50, 2, 2, 2, 2, 2, 2, 2, 2, 4, 4}};
        for (int[] each : needs) {
            begin(17);
            x.room(71, 20);
            for (int c = 0; c < 10; c++) {
                x.child(-each[0], -1, 31, 60);
                x.in(c, 0);
                due(each[c + 1], x.now(0, 2));
            }
        }
    }

    private static void ratioSigns() {
        begin(17);
        x.room(71, 20);
        x.room(71, 20);
        children(0, 23, 24, 35, 36, 71, 60);
        for (int c = 0; c < 7; c++) {
            x.in(c, 1);
        }
        x.sleeps(0, true);
        x.sleeps(6, true);
        int[] counted = {2, 2, 3, 2, 1, 7};
        for (int sign = 1; sign <= 6; sign++) {
            ratio(sign);
            due(counted[sign - 1], x.now(1, 2));
            due(0, x.now(0, 2));
        }
        for (int number = 0; number < 40; number++) {
            ratio(10 + number);
            due(number, x.now(0, 2));
        }
        int[][] joined = {{49, 15, 50, 44}, {49, 15, 51, 34}, {15, 49, 51, 0}, {49, 15, 52, 195},
            {49, 15, 53, 8}, {20, 15, 53, 2}, {21, 15, 53, 3}, {15, 10, 53, 0}, {10, 15, 53, 0}, {49, 11, 53, 39},
            {49, 15, 54, 39}, {15, 49, 54, 39}};
        for (int[] each : joined) {
            ratio(each[0], each[1], each[2]);
            due(each[3], x.now(0, 2));
        }
    }

    private static void ratioEdges() {
        begin(17);
        x.room(71, 20);
        ratio(10, 13, 51, 12, 53, 15, 50);
        due(4, x.now(0, 2));
        ratio(15, 10, 13, 51, 53, 11, 50);
        due(1, x.now(0, 2));
        ratio(10, 13, 51, 10, 14, 51, 52);
        due(12, x.now(0, 2));
        ratio(10, 13, 51, 11, 54, 12, 51);
        due(0, x.now(0, 2));
        ratio(49, 49, 49, 49, 49, 52, 52, 52, 52);
        due(90224199, x.now(0, 2));
        ratio(49, 49, 52, 49, 52, 49, 52, 49, 52, 49, 52);
        due(HIGH, x.now(0, 2));
        due(0, x.now(0, 4));
        ratio(49, 49, 52, 49, 52, 49, 52, 49, 52, 49, 52, 49, 52);
        due(HIGH, x.now(0, 2));
        children(1);
        x.in(0, 0);
        ratio(10);
        due(0, x.now(0, 2));
        due(0, x.now(0, 4));
        ratio(14, 15);
        due(2, x.now(0, 2));
        ratio();
        due(2, x.now(0, 2));
    }

    private static void lacking() {
        begin(18);
        due(0, x.lacking());
        threeRooms();
        due(0, x.lacking());
        hands(1, 0, 1);
        children(1, 25, 40);
        x.in(0, 0);
        x.in(2, 2);
        due(5, x.lacking());
        x.place(0, 2);
        x.place(1, 0);
        due(1, x.lacking());
        x.place(2, 0);
        due(0, x.lacking());
        ratio(12, 5, 52);
        due(4 + 2, x.lacking());
    }

    private static void moves() {
        begin(19);
        due(0, x.moves());
        hands(0, 3);
        due(0, x.moves());
        due(-1, x.moved(0));
        threeRooms();
        due(0, x.moves());
        children(1, 25);
        x.in(0, 0);
        due(NONE, x.moves());
        hands(1);
        due(1, x.moves());
        x.in(1, 1);
        due(NONE, x.moves());
        hands(2);
        due(2, x.moves());
        x.place(2, 0);
        x.place(3, 2);
        due(1, x.moves());
        x.ill(3);
        due(NONE, x.moves());
    }

    private static void movesInOrder() {
        begin(19);
        x.room(71, 9);
        x.room(71, 9);
        hands(1, 1, 1);
        children(1, 2);
        x.in(0, 0);
        x.in(1, 1);
        due(2, x.moves());
        due(-1, x.moved(0));
        due(0, x.moved(1));
        due(1, x.moved(2));
        x.place(0, 1);
        x.place(1, 1);
        due(1, x.moves());
        due(0, x.moved(0));
        due(1, x.moved(1));
        due(-1, x.moved(2));
        x.ill(2);
        due(1, x.moves());
        due(0, x.moved(0));
        due(1, x.moved(1));
        due(NONE, x.moved(2));
        ratio(13);
        due(NONE, x.moves());
        ratio(12);
        due(1, x.moves());
    }

    /** All hands and rooms: who stays, who is elsewhere, and who goes first. */
    private static void movesOfSeven() {
        begin(19);
        for (int r = 0; r < 5; r++) {
            x.room(71, 9);
        }
        hands(1, 1, 1, 1, 1, 1, 1);
        children(1, 2, 3, 4, 5);
        for (int c = 0; c < 5; c++) {
            x.in(c, c);
        }
        movesAre(5, -1, -1, 0, 1, 2, 3, 4);
        for (int h = 0; h < 7; h++) {
            x.place(h, 4);
        }
        movesAre(4, 0, 1, 2, 3, 4, 4, 4);
        x.place(6, 0);
        movesAre(3, 1, 2, 3, 4, 4, 4, 0);
        x.place(5, 1);
        x.place(4, -1);
        movesAre(2, 2, 3, 4, 4, -1, 1, 0);
        ratio(5, 11, 53, 12, 50);
        movesAre(NONE, NONE, NONE, NONE, NONE, NONE, NONE, NONE);
        ratio(5, 11, 53, 12, 51);
        movesAre(2, 2, 3, 4, 4, -1, 1, 0);
        ratio(5, 13, 51, 14, 52);
        x.place(4, 3);
        x.place(0, 3);
        movesAre(1, 2, 4, 4, 4, 3, 1, 0);
        x.ill(1);
        movesAre(1, 2, NONE, 4, 4, 3, 1, 0);
        x.undo();
        x.undo();
        movesAre(1, 2, 4, 4, 4, 3, 1, 0);
    }

    private static void movesAre(int count, int... rooms) {
        due(count, x.moves());
        for (int h = 0; h < rooms.length; h++) {
            due(rooms[h], x.moved(h));
        }
    }

    private static void moved() {
        begin(20);
        x.room(71, 9);
        hands(1, 3);
        due(BEYOND, x.moved(2));
        due(BEYOND, x.moved(-1));
        due(-1, x.moved(0));
        x.place(0, 0);
        due(0, x.moved(0));
        x.ill(1);
        due(NONE, x.moved(1));
        ratio(13);
        due(NONE, x.moved(0));
        due(NONE, x.moved(1));
        due(BEYOND, x.moved(2));
    }

    private static void move() {
        begin(21);
        threeRooms();
        hands(1, 0, 2, 3);
        children(1, 25, 2);
        x.in(0, 0);
        x.in(1, 1);
        x.place(0, 2);
        x.ill(3);
        due(2, x.move());
        due(0, x.lacking());
        due(1, x.now(0, 1));
        due(4, x.now(1, 1));
        due(0, x.move());
        due(NONE, x.place(3, 0));
        due(-1, x.place(1, 0));
        int before = x.undo();
        due(before - 1, x.undo());
        due(before - 2, x.undo());
        due(3, x.lacking());
        x.ill(2);
        due(NONE, x.move());
        due(before - 2, x.undo());
    }

    private static void roll() {
        begin(22);
        x.room(71, 9);
        children(1, 2);
        due(BEYOND, x.roll(60, -1));
        due(BEYOND, x.roll(-1, -1));
        due(BEYOND, x.roll(0, 2));
        due(BEYOND, x.roll(0, -2));
        x.fetches(0, 1, true);
        x.slot(3);
        x.in(0, 0);
        x.slot(5);
        x.in(1, 0);
        x.over(0, 1);
        x.slot(8);
        x.in(0, 0);
        int[] first = {0, 0, 0, 1, 1, 0, 0, 0, 1, 1};
        int[] both = {0, 0, 0, 1, 1, 1, 1, 1, 2, 2};
        for (int slot = 0; slot < 10; slot++) {
            due(first[slot], x.roll(slot, 0));
            due(both[slot], x.roll(slot, -1));
        }
        due(2, x.roll(59, -1));
        x.over(0, 1);
        due(0, x.roll(8, 0));
        due(5, x.all(5));
        rollOfForty();
    }

    private static void rollOfForty() {
        begin(22);
        x.room(71, 9);
        children(1, 2);
        x.fetches(0, 1, true);
        x.in(1, 0);
        x.slot(1);
        for (int i = 0; i < 19; i++) {
            x.in(0, 0);
            x.over(0, 1);
        }
        x.in(0, 0);
        due(40, x.all(5));
        due(2, x.roll(1, -1));
        due(1, x.roll(0, 1));
        x.slot(2);
        x.over(0, 1);
        due(40, x.all(5));
        due(0, x.roll(59, 1));
        due(0, x.childIs(1, 5));
        due(1, x.roll(1, -1));
        due(0, x.roll(2, -1));
    }

    private static void sleeps() {
        begin(23);
        x.room(71, 9);
        children(1, 2);
        due(BEYOND, x.sleeps(2, true));
        due(BEYOND, x.sleeps(-1, false));
        due(NONE, x.sleeps(0, true));
        due(NONE, x.sleeps(0, false));
        x.in(0, 0);
        due(0, x.sleeps(0, false));
        due(0, x.all(6));
        due(1, x.sleeps(0, true));
        due(0, x.sleeps(0, true));
        due(1, x.all(6));
        due(1, x.childIs(0, 6));
        due(1, x.sleeps(0, false));
        due(2, x.all(6));
        due(0, x.childIs(0, 6));
    }

    private static void look() {
        begin(24);
        x.room(71, 9);
        children(1, 2);
        due(BEYOND, x.look(2));
        due(BEYOND, x.look(-1));
        due(NONE, x.look(0));
        x.in(0, 0);
        x.in(1, 0);
        due(NONE, x.look(0));
        x.sleeps(0, true);
        x.sleeps(1, true);
        due(1, x.look(0));
        due(2, x.look(1));
        due(3, x.look(0));
        due(5, x.all(6));
        for (int looks = 4; looks <= 38; looks++) {
            due(looks, x.look(0));
        }
        due(39, x.look(0));
        due(40, x.look(0));
        due(40, x.look(0));
        due(40, x.all(6));
        x.sleeps(0, false);
        due(NONE, x.look(0));
        due(39, x.look(1));
    }

    private static void missed() {
        begin(25);
        x.room(71, 9);
        children(1, 2);
        x.fetches(0, 0, true);
        due(BEYOND, x.missed(2, true));
        due(BEYOND, x.missed(-1, false));
        due(0, x.missed(0, false));
        due(NONE, x.missed(0, true));
        x.in(0, 0);
        x.in(1, 0);
        x.slot(10);
        x.sleeps(0, true);
        x.slot(12);
        due(0, x.missed(0, false));
        x.slot(13);
        due(1, x.missed(0, false));
        due(10, x.missed(0, true));
        x.look(0);
        x.slot(15);
        due(1, x.missed(0, false));
        x.sleeps(0, false);
        x.slot(30);
        due(1, x.missed(0, false));
        x.sleeps(0, true);
        x.slot(33);
        x.over(0, 0);
        x.slot(59);
        due(2, x.missed(0, false));
        due(10, x.missed(0, true));
        due(0, x.missed(1, false));
        due(NONE, x.missed(1, true));
    }

    private static void missedOfForty() {
        begin(25);
        x.room(71, 9);
        children(1, 2);
        x.in(0, 0);
        x.in(1, 0);
        x.sleeps(0, true);
        x.slot(5);
        x.look(0);
        x.sleeps(1, true);
        x.slot(9);
        due(2, x.missed(0, false));
        for (int i = 0; i < 37; i++) {
            x.look(1);
        }
        due(40, x.all(6));
        due(2, x.missed(0, false));
        due(0, x.missed(0, true));
        x.look(1);
        due(1, x.missed(0, false));
        due(5, x.missed(0, true));
        x.look(1);
        due(0, x.missed(0, false));
        due(1, x.missed(1, false));
        x.look(1);
        due(0, x.missed(1, false));
        due(1, x.childIs(0, 6));
        x.look(0);
        x.slot(12);
        due(1, x.missed(0, false));
        due(9, x.missed(0, true));
    }

    private static void needed() {
        begin(26);
        due(BEYOND, x.needed(-1, 3, 1));
        due(BEYOND, x.needed(0, 60, 1));
        due(BEYOND, x.needed(60, 60, 1));
        due(BEYOND, x.needed(3, 2, 1));
        due(BEYOND, x.needed(0, 0, -1));
        due(BEYOND, x.needed(0, 0, 9));
        due(1, x.needed(59, 59, 8));
        due(8, x.shifts(-1));
        due(24, x.shifts(0));
        due(24, x.shifts(7));
        due(NONE, x.shifts(8));
        due(60, x.needed(0, 59, 0));
        due(0, x.shifts(-1));
        due(5, x.needed(0, 4, 2));
        due(2, x.shifts(-1));
    }

    private static void longer() {
        begin(27);
        due(BEYOND, x.longer(0));
        due(BEYOND, x.longer(61));
        due(BEYOND, x.longer(LOW));
        due(36, x.longer(60));
        due(60, x.longer(1));
        due(1, x.longer(1));
        x.needed(0, 59, 8);
        due(480, x.shifts(-1));
        due(59, x.shifts(479));
        due(NONE, x.shifts(480));
        x.longer(60);
        due(8, x.shifts(-1));
        due(0, x.shifts(7));
    }

    private static void shifts() {
        begin(28);
        due(BEYOND, x.shifts(-2));
        due(BEYOND, x.shifts(LOW));
        due(NONE, x.shifts(0));
        due(NONE, x.shifts(HIGH));
        x.longer(10);
        x.needed(5, 7, 1);
        x.needed(14, 16, 2);
        x.needed(55, 55, 1);
        int[] begins = {5, 14, 15, 50};
        due(4, x.shifts(-1));
        for (int i = 0; i < 4; i++) {
            due(begins[i], x.shifts(i));
        }
        due(NONE, x.shifts(4));
        x.longer(12);
        due(3, x.shifts(-1));
        due(5, x.shifts(0));
        due(14, x.shifts(1));
        due(48, x.shifts(2));
    }

    private static void proves() {
        begin(29);
        due(BEYOND, x.proves(4));
        due(BEYOND, x.proves(-1));
        due(MISSING, x.proves(0));
        x.longer(20);
        x.needed(0, 39, 1);
        write(0, 16, 0, 20);
        due(-1, x.proves(0));
        x.put(0, 1, 21);
        due(20, x.proves(0));
        x.put(0, 1, 41);
        due(KIND, x.proves(0));
        x.put(0, 1, 40);
        due(20, x.proves(0));
        x.put(0, 0, -1);
        due(KIND, x.proves(0));
        write(1, 8, 20, 0);
        due(KIND, x.proves(1));
        write(1, 8, 0, 0, 20);
        due(60, x.proves(1));
        write(1, 8, 1, 20);
        due(0, x.proves(1));
        write(1, 8, 0, 20 + 256);
        due(-1, x.proves(1));
        write(2, 32, 0, 20 + 65536);
        due(KIND, x.proves(2));
        x.sheet(2, 32, 0);
        due(0, x.proves(2));
        x.needed(0, 59, 0);
        due(-1, x.proves(2));
        due(60, x.proves(1));
        x.sheet(2, 0, 0);
        due(MISSING, x.proves(2));
    }

    private static void waits() {
        begin(30);
        children(1, 2, 3);
        due(BEYOND, x.waits(3));
        due(BEYOND, x.waits(-1));
        due(1, x.waits(2));
        due(TAKEN, x.waits(2));
        due(2, x.waits(0));
        x.admit(1);
        due(TAKEN, x.waits(1));
        x.admit(2);
        due(TAKEN, x.waits(2));
        due(0, x.list(0));
    }

    private static void listIs(int... wanted) {
        for (int i = 0; i < wanted.length; i++) {
            due(wanted[i], x.list(i));
        }
        due(NONE, x.list(wanted.length));
    }

    private static void list() {
        begin(31);
        due(BEYOND, x.list(-1));
        due(BEYOND, x.list(LOW));
        due(NONE, x.list(0));
        due(NONE, x.list(HIGH));
        int[] siblings = {-1, 0, 0, 1, -1, -1, 5, -1};
        for (int sibling : siblings) {
            x.child(0, sibling, 31, 60);
        }
        for (int c : new int[] {7, 6, 3, 2, 0, 4}) {
            x.waits(c);
        }
        listIs(7, 6, 3, 2, 0, 4);
        x.admit(1);
        listIs(3, 2, 0, 7, 6, 4);
        x.admit(5);
        listIs(6, 3, 2, 0, 7, 4);
        x.admit(3);
        listIs(6, 2, 0, 7, 4);
        x.undo();
        listIs(6, 3, 2, 0, 7, 4);
        x.undo();
        x.undo();
        listIs(7, 6, 3, 2, 0, 4);
        x.admit(4);
        listIs(7, 6, 3, 2, 0);
        x.admit(0);
        listIs(2, 7, 6, 3);
    }

    private static void earliest() {
        begin(32);
        x.room(71, 1);
        due(BEYOND, x.earliest(0));
        due(BEYOND, x.earliest(-1));
        x.child(0, -1, 3, 1020);
        x.child(0, -1, 2, 560);
        x.child(0, -1, 2, 515);
        x.child(0, -1, 4, 515);
        x.child(0, -1, 0, 1560);
        x.child(16, -1, 2, 515);
        x.child(-65, -1, 31, 60);
        due(10, x.earliest(0));
        due(10, x.admit(0));
        due(TAKEN, x.earliest(0));
        due(21, x.earliest(1));
        due(NONE, x.earliest(2));
        due(5, x.earliest(3));
        due(15, x.earliest(4));
        due(5, x.earliest(5));
        due(0, x.earliest(6));
        due(4, x.all(7));
        due(8, x.undo());
        due(5, x.earliest(2));
    }

    /** Each day by itself bars. */
    private static void earliestByDays() {
        for (int day = 0; day < 5; day++) {
            begin(32);
            x.room(71, 1);
            x.child(0, -1, 1 << day, 60);
            x.child(0, -1, 1 << day, 60);
            x.child(0, -1, 31 - (1 << day), 60);
            x.child(0, -1, 31, 60);
            due(0, x.admit(0));
            due(NONE, x.earliest(1));
            due(0, x.earliest(2));
            due(NONE, x.earliest(3));
        }
    }

    private static void admit() {
        begin(33);
        due(BEYOND, x.admit(0));
        x.room(11, 1);
        x.room(1271, 2);
        x.child(0, -1, 31, 60);
        x.child(0, 0, 31, 60);
        x.child(0, 0, 31, 60);
        x.waits(1);
        x.waits(2);
        due(0, x.admit(0));
        due(TAKEN, x.admit(0));
        due(12, x.admit(1));
        due(12, x.childIs(1, 3));
        due(1, x.childIs(1, 7));
        due(2, x.list(0));
        due(NONE, x.admit(2));
        due(0, x.childIs(2, 7));
        due(2, x.list(0));
        due(NONE, x.list(1));
        due(BEYOND, x.admit(-1));
        x.undo();
        due(0, x.childIs(1, 3));
        due(0, x.childIs(1, 7));
        due(1, x.list(0));
        due(12, x.earliest(2));
    }

    private static void places() {
        begin(34);
        x.room(11, 5);
        x.room(1271, 5);
        x.child(0, -1, 5, 520);
        x.child(5, -1, 4, 60);
        due(0, x.places(0, 2, 5));
        x.admit(0);
        x.admit(1);
        due(BEYOND, x.places(2, 0, 0));
        due(BEYOND, x.places(-1, 0, 0));
        due(BEYOND, x.places(0, 5, 0));
        due(BEYOND, x.places(0, -1, 0));
        due(BEYOND, x.places(0, 0, 61));
        due(BEYOND, x.places(0, 0, -1));
        due(0, x.places(0, 2, 4));
        due(2, x.places(0, 2, 5));
        due(1, x.places(0, 0, 5));
        due(0, x.places(0, 1, 5));
        due(2, x.places(0, 2, 11));
        due(1, x.places(0, 2, 12));
        due(1, x.places(1, 2, 12));
        due(2, x.places(1, 2, 20));
        due(1, x.places(1, 2, 21));
        due(1, x.places(1, 2, 60));
        due(0, x.places(1, 4, 60));
    }

    private static void rate() {
        begin(35);
        due(BEYOND, x.rate(0));
        due(BEYOND, x.rate(100));
        due(BEYOND, x.rate(-5));
        due(10, x.rate(99));
        due(99, x.rate(1));
        due(1, x.rate(1));
    }

    private static void bill() {
        begin(36);
        x.room(71, 9);
        x.child(0, -1, 7, 60);
        x.child(0, -1, 0, 60);
        due(BEYOND, x.bill(2, 0, 0, true));
        due(BEYOND, x.bill(-1, 0, 0, true));
        due(BEYOND, x.bill(0, -1, 0, true));
        due(BEYOND, x.bill(0, 32, 0, true));
        due(BEYOND, x.bill(0, 0, -1, false));
        due(BEYOND, x.bill(0, 0, 31, false));
        due(300, x.bill(0, 0, 0, true));
        due(290, x.bill(0, 0, 1, true));
        due(300, x.bill(0, 0, 30, false));
        due(0, x.bill(0, 0, 30, true));
        due(200, x.bill(0, 1, 0, true));
        due(0, x.bill(0, 3, 30, true));
        due(300, x.bill(0, 24, 0, true));
        due(0, x.bill(0, 31, 0, true));
        due(0, x.bill(1, 0, 0, true));
        x.rate(99);
        due(2970, x.bill(0, 0, 0, true));
        x.fetches(0, 0, true);
        x.in(0, 0);
        x.slot(54);
        x.over(0, 0);
        due(0, x.bill(0, 31, 0, true));
        x.in(0, 0);
        x.slot(55);
        x.over(0, 0);
        due(5, x.bill(0, 31, 0, true));
        x.in(0, 0);
        x.slot(59);
        due(5, x.bill(0, 31, 0, true));
        x.over(0, 0);
        due(25 + 990, x.bill(0, 3, 0, true));
        due(25, x.bill(0, 0, 30, true));
        due(0, x.bill(1, 0, 0, true));
        x.day();
        due(0, x.bill(0, 31, 0, true));
    }

    private static void text() {
        begin(37);
        x.room(71, 9);
        due(BEYOND, x.text(4));
        due(BEYOND, x.text(-1));
        due(MISSING, x.text(0));
        x.sheet(0, 8, 15);
        due(SIZE, x.text(0));
        x.sheet(0, 8, 14);
        due(BEYOND, x.text(0));
        for (int sign : new int[] {0, 7, 8, 9, 55, -1, LOW, HIGH}) {
            write(1, 32, 12, sign);
            due(BEYOND, x.text(1));
        }
        due(0, x.undo());
        x.room(71, 9);
        write(1, 8, 12 + 256);
        due(1, x.text(1));
        due(2, x.now(0, 2));
        x.put(1, 0, 13);
        due(2, x.now(0, 2));
        due(1, x.text(1));
        due(3, x.now(0, 2));
        write(2, 16, 10, 11, 50, 11, 50, 11, 50, 11, 50, 11, 50, 11, 50, 49);
        due(14, x.text(2));
        due(14, x.wrong());
        due(0, x.now(0, 2));
        x.undo();
        due(3, x.now(0, 2));
    }

    private static void wrongIs(int want, int... signs) {
        ratio(signs);
        due(want, x.wrong());
    }

    private static void wrong() {
        begin(38);
        due(0, x.wrong());
        wrongIs(-1, 10);
        wrongIs(-1, 1);
        wrongIs(2, 10, 10);
        wrongIs(0, 50);
        wrongIs(1, 10, 54);
        wrongIs(1, 10, 54, 54);
        wrongIs(-1, 10, 10, 54);
        wrongIs(3, 10, 10, 54, 54);
        wrongIs(-1, 1, 2, 3, 4, 5, 50, 50, 50, 50);
        wrongIs(5, 1, 2, 3, 4, 5, 6, 50, 50, 50, 50, 50);
        wrongIs(5, 1, 2, 3, 4, 5);
        wrongIs(14, 1, 2, 50, 2, 50, 2, 50, 2, 50, 2, 50, 2, 50, 2);
        wrongIs(0);
        due(0, x.all(7));
    }

    private static void sheet() {
        begin(39);
        due(BEYOND, x.sheet(4, 8, 0));
        due(BEYOND, x.sheet(-1, 8, 0));
        for (int bits : new int[] {-8, 1, 7, 9, 24, 64, LOW, HIGH}) {
            due(BEYOND, x.sheet(0, bits, 1));
        }
        due(BEYOND, x.sheet(0, 7, -1));
        due(SIZE, x.sheet(0, 8, -1));
        due(BEYOND, x.sheet(0, 8, 61));
        due(SIZE, x.sheet(0, 0, -1));
        due(BEYOND, x.sheet(0, 0, 61));
        due(MISSING, x.put(0, 0, 1));
        due(60, x.sheet(0, 8, 60));
        due(60, x.proves(0));
        due(0, x.put(0, 59, 1));
        due(SIZE, x.sheet(0, 8, -1));
        due(0, x.put(0, 59, 1));
        due(1, x.sheet(0, 16, 1));
        due(0, x.put(0, 0, 12));
        due(1, x.text(0));
        due(1, x.sheet(0, 32, 1));
        due(BEYOND, x.text(0));
        due(0, x.sheet(0, 32, 0));
        due(0, x.text(0));
        due(0, x.sheet(0, 0, 5));
        due(MISSING, x.text(0));
        due(1, x.undo());
        due(0, x.undo());
        due(NONE, x.undo());
    }

    private static void put() {
        begin(40);
        due(BEYOND, x.put(4, 0, 0));
        due(BEYOND, x.put(-1, 0, 0));
        due(MISSING, x.put(0, 0, 0));
        due(MISSING, x.put(0, -1, 0));
        x.sheet(0, 8, 1);
        x.sheet(1, 16, 1);
        x.sheet(2, 32, 1);
        due(BEYOND, x.put(0, 1, 0));
        due(BEYOND, x.put(0, -1, 0));
        due(BEYOND, x.put(0, HIGH, 0));
        int[] values = {12, 12 + 256, 12 + 65536, 12 - 256};
        int[][] answers = {{1, 1, 1, 1}, {1, BEYOND, 1, BEYOND}, {1, BEYOND, BEYOND, BEYOND}};
        for (int s = 0; s < 3; s++) {
            for (int i = 0; i < 4; i++) {
                due(0, x.put(s, 0, values[i]));
                due(answers[s][i], x.text(s));
            }
        }
    }

    private static void copy() {
        begin(41);
        due(BEYOND, x.copy(4, 0, 0, 0, 0));
        due(BEYOND, x.copy(0, 0, -1, 0, 0));
        due(MISSING, x.copy(0, 0, 0, 0, 0));
        write(0, 8, 11, 12, 50, 13, 52);
        due(MISSING, x.copy(0, 0, 1, 0, 0));
        due(MISSING, x.copy(1, 0, 0, 0, -1));
        x.sheet(1, 16, 5);
        due(KIND, x.copy(0, 0, 1, 0, -1));
        x.sheet(1, 8, 3);
        due(BEYOND, x.copy(0, 0, 1, 0, 4));
        due(BEYOND, x.copy(0, 3, 1, 0, 3));
        due(BEYOND, x.copy(0, -1, 1, 0, 1));
        due(BEYOND, x.copy(0, 0, 1, -1, 1));
        due(BEYOND, x.copy(0, 0, 1, 0, -1));
        due(BEYOND, x.copy(0, 6, 1, 0, 0));
        due(BEYOND, x.copy(0, HIGH, 1, HIGH, HIGH));
        due(BEYOND, x.copy(0, 1, 1, 1, HIGH));
        due(0, x.copy(0, 5, 1, 3, 0));
        due(3, x.copy(0, 0, 1, 0, 3));
        x.room(71, 1);
        due(3, x.text(1));
        due(3, x.now(0, 2));
        copyOntoItself();
        due(5, x.copy(0, 0, 0, 0, 5));
    }

    private static void copyOntoItself() {
        write(2, 8, 10, 11, 12, 13);
        due(3, x.copy(2, 0, 2, 1, 3));
        due(1, x.copy(2, 3, 2, 0, 1));
        x.sheet(1, 8, 1);
        int[] moved = {2, 0, 1, 2};
        for (int i = 0; i < 4; i++) {
            due(1, x.copy(2, i, 1, 0, 1));
            due(1, x.text(1));
            due(moved[i], x.now(0, 2));
        }
        write(2, 8, 10, 11, 12, 13);
        due(3, x.copy(2, 1, 2, 0, 3));
        moved = new int[] {1, 2, 3, 3};
        for (int i = 0; i < 4; i++) {
            due(1, x.copy(2, i, 1, 0, 1));
            due(1, x.text(1));
            due(moved[i], x.now(0, 2));
        }
    }

    private static void undo() {
        begin(42);
        due(NONE, x.undo());
        due(36, x.longer(7));
        due(0, x.undo());
        due(10, x.rate(7));
        due(0, x.undo());
        for (int i = 1; i <= 20; i++) {
            x.month(i);
        }
        for (int left = 15; left >= 0; left--) {
            due(left, x.undo());
        }
        due(NONE, x.undo());
        due(4, x.month(4));
        due(BEYOND, x.month(61));
        x.sheet(0, 8, 1);
        x.put(0, 0, 10);
        x.copy(0, 0, 0, 0, 1);
        x.all(0);
        due(0, x.undo());
        due(1, x.text(0));
        due(0, x.undo());
        due(NONE, x.undo());
        due(4, x.all(7));
        due(4, x.month(9));
        due(9, x.month(9));
        due(1, x.undo());
        due(9, x.month(9));
    }

    /** Each act that can be undone, once: what it changed is as it was. */
    private static void undoEach() {
        begin(42);
        x.room(71, 3);
        x.hand(1);
        x.child(0, -1, 31, 1020);
        x.fetches(0, 0, true);
        x.in(0, 0);
        x.room(71, 2);
        due(6 - 1, x.undo());
        due(1, x.all(0));
        x.room(71, 2);
        undone(x.hand(0), 1, () -> x.all(1));
        undone(x.child(0, -1, 31, 60), 1, () -> x.all(2));
        undone(x.slot(5), 0, () -> x.all(4));
        undone(x.day(), 1, () -> x.all(3));
        undone(x.day(), 1, () -> x.all(5));
        undone(x.to(0, 1), 0, () -> x.childIs(0, 5));
        undone(x.over(0, 0), 0, () -> x.childIs(0, 5));
        undone(x.fetches(0, 1, true), 1, () -> x.childIs(0, 8));
        undone(x.place(0, 0), 0, () -> x.now(0, 1));
        undone(x.move(), 1, () -> x.lacking());
        undone(x.sleeps(0, true), 0, () -> x.childIs(0, 6));
        undone(x.sleeps(0, false), 0, () -> x.all(6));
        undone(x.needed(0, 9, 3), 0, () -> x.shifts(-1));
        undone(x.waits(0), NONE, () -> x.list(0));
        undone(x.admit(0), 0, () -> x.childIs(0, 7));
        x.sleeps(0, true);
        undone(x.look(0), 1, () -> x.all(6));
        x.place(0, 1);
        undone(x.ill(0), 1, () -> x.now(1, 1));
        x.longer(7);
        x.undo();
        due(36, x.longer(36));
        x.rate(7);
        x.undo();
        due(10, x.rate(10));
        x.month(7);
        x.undo();
        due(0, x.month(0));
        write(0, 8, 10);
        undone(x.text(0), 0, () -> x.wrong());
        x.in(0, 0);
        x.over(0, 0);
        undone(x.in(0, 0), -1, () -> x.childIs(0, 5));
    }

    /** What other acts wrote over what was is as it was, too. */
    private static void undoOfMore() {
        begin(42);
        x.room(71, 3);
        x.undo();
        due(0, x.room(1020, 1));
        x.hand(1);
        x.undo();
        due(0, x.hand(3));
        due(KIND, x.as(0, 1));
        x.child(1, -1, 2, 304);
        x.undo();
        due(0, x.child(-15, -1, 31, 60));
        x.ill(0);
        due(-1, x.childIs(0, 1));
        x.undo();
        due(-1, x.ill(0));
        x.fetches(0, 0, true);
        x.in(0, 0);
        x.slot(57);
        x.over(0, 0);
        due(515, x.bill(0, 0, 0, true));
        x.child(-15, -1, 31, 60);
        x.day();
        x.slot(3);
        x.in(1, 0);
        x.undo();
        x.undo();
        x.undo();
        due(1, x.roll(0, 0));
        due(0, x.roll(59, 1));
        due(1, x.roll(56, 0));
        due(0, x.roll(57, 0));
        due(15, x.bill(0, 31, 0, true));
        x.waits(0);
        x.undo();
        due(1, x.waits(0));
        ratio(12, 12, 50);
        due(4, x.now(0, 2));
        ratio(12);
        x.undo();
        due(4, x.now(0, 2));
    }

    private static void undone(int answer, int want, java.util.function.IntSupplier after) {
        due(1, answer >= -1 ? 1 : 0);
        x.undo();
        DUE.is("promise 42, line " + Thread.currentThread().getStackTrace()[2].getLineNumber(), want, after.getAsInt());
    }

    private static void all() {
        begin(43);
        x.room(71, 9);
        x.room(71, 9);
        hands(0, 1, 2);
        children(1, 2, 3, 4);
        x.in(0, 0);
        x.in(1, 1);
        x.slot(7);
        x.fetches(0, 0, true);
        x.sleeps(0, true);
        x.over(0, 0);
        int[] row = {2, 3, 4, 1, 7, 3, 2, 0};
        for (int what = 0; what < 8; what++) {
            due(row[what], x.all(what));
        }
        due(BEYOND, x.all(8));
        due(BEYOND, x.all(-1));
        due(2, x.all(7));
        x.childIs(9, 9);
        x.roomOf(0, 1);
        x.childIs(0, 1);
        x.childIs(0, 5);
        due(3, x.all(7));
        for (int i = 0; i < 20; i++) {
            x.undo();
        }
        due(0, x.all(0));
        due(8, x.all(7));
    }
}
