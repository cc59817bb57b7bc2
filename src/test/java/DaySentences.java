/** The sentences of promises 9 to 21: the day. */
final class DaySentences extends Reading {
    static void read() {
        slot();
        day();
        in();
        inRefused();
        to();
        toRefused();
        over();
        fetches();
        place();
        ill();
        now();
        lacking();
        moves();
        moved();
        move();
    }

    private static void slot() {
        promise(9, "THE SLOT becomes v: what it was.");
        due(0, x.slot(0));
        due(0, x.slot(7));
        due(7, x.slot(7));
        due(7, x.slot(59));
        due(59, x.slot(59));
        due(59, x.all(4));

        promise(9, "BEYOND.");
        x.slot(30);
        for (int v : row(-1, 60, LOW, HIGH)) {
            due(BEYOND, x.slot(v));
        }
        due(30, x.all(4));

        promise(9, "SIZE: it is below what it is.");
        x.slot(30);
        due(SIZE, x.slot(29));
        due(SIZE, x.slot(0));
        due(30, x.all(4));
        due(30, x.slot(30));
        x.day();
        due(0, x.slot(29));
    }

    private static void day() {
        promise(10, "A new DAY: SLOT 0; no CHILD is IN, or SLEEPS; nothing is led any more; nobody is ILL (HANDS stay where they are): how many CHILDREN were IN.");
        due(0, x.day());
        childrenIn(3);
        hands(0, 1, 2);
        x.place(0, 0);
        x.place(1, 0);
        x.ill(1);
        x.sleeps(0, true);
        x.sleeps(1, true);
        x.slot(58);
        x.over(2, 0);
        due(2, x.day());
        due(0, x.all(3));
        due(0, x.all(4));
        due(0, x.all(5));
        due(0, x.all(6));
        for (int c = 0; c < 3; c++) {
            due(-1, x.childIs(c, 5));
            due(0, x.childIs(c, 6));
            due(0, x.missed(c, false));
            due(0, x.roll(59, c));
            due(500, x.bill(c, 0, 0, true));
        }
        due(1, x.now(0, 1));
        due(-1, x.moved(1));
        due(-1, x.place(1, 0));
        due(-1, x.place(2, 0));
        due(1, x.in(0, 0));
        due(0, x.childIs(0, 6));
        due(1, x.day());
        due(0, x.day());
        dayKeeps();
        dayOfAll();
    }

    private static void dayOfAll() {
        fresh();
        childrenIn(10);
        hands(0, 1, 2, 3, 0, 1, 2);
        for (int h = 0; h < 7; h++) {
            x.place(h, 0);
            x.ill(h);
        }
        for (int c = 0; c < 10; c++) {
            x.sleeps(c, true);
        }
        due(10, x.all(3));
        due(10, x.day());
        due(0, x.now(0, 0));
        for (int c = 0; c < 10; c++) {
            due(0, x.childIs(c, 6));
            due(c + 1, x.in(c, 0));
        }
        for (int h = 0; h < 7; h++) {
            due(-1, x.place(h, 0));
        }
        due(127, x.now(0, 1));
    }

    private static void dayKeeps() {
        childrenIn(0);
        x.fetches(0, 5, true);
        x.month(6);
        x.longer(9);
        x.rate(8);
        x.needed(0, 0, 3);
        x.waits(1);
        x.admit(2);
        ratio(13);
        x.day();
        due(1 + 32, x.childIs(0, 8));
        due(3, x.shifts(-1));
        due(1, x.list(0));
        due(1, x.childIs(2, 7));
        due(3, x.now(0, 2));
        due(6, x.month(6));
        due(9, x.longer(9));
        due(8, x.rate(8));
    }

    private static void in() {
        promise(11, "A CHILD comes IN a ROOM: how many are in it.");
        rooms(2, 20);
        children(0, 10, 20, 30, 40, 50, 60, 70, 71, 5);
        for (int c = 0; c < 9; c++) {
            due(c + 1, x.in(c, 1));
            due(1, x.childIs(c, 5));
        }
        due(1, x.in(9, 0));
        due(0, x.childIs(9, 5));
        due(10, x.all(3));
        due(10, x.all(5));
    }

    private static void inRefused() {
        promise(11, "BEYOND.");
        due(BEYOND, x.in(0, 0));
        rooms(1, 5);
        due(BEYOND, x.in(0, 0));
        children(1);
        for (int each : row(1, -1, LOW, HIGH)) {
            due(BEYOND, x.in(each, 0));
            due(BEYOND, x.in(0, each));
        }
        due(0, x.all(3));

        promise(11, "TAKEN: it is IN.");
        rooms(2, 5);
        children(1);
        x.in(0, 0);
        due(TAKEN, x.in(0, 0));
        due(TAKEN, x.in(0, 1));
        due(0, x.childIs(0, 5));
        due(1, x.all(5));

        promise(11, "KIND: the ROOM does not take its AGE (in THE MONTH).");
        x.room(1020, 5);
        x.room(71, 5);
        x.child(0, -1, 31, 60);
        int[] months = {0, KIND, 9, KIND, 10, 1, 20, 1, 21, KIND};
        for (int i = 0; i < months.length; i += 2) {
            x.month(months[i]);
            due(months[i + 1], x.in(0, 0));
            x.day();
        }
        x.child(-71, -1, 31, 60);
        x.child(60, -1, 31, 60);
        x.month(0);
        due(1, x.in(1, 1));
        due(KIND, x.in(2, 1));
        x.day();
        x.month(1);
        due(KIND, x.in(1, 1));
        x.month(60);
        due(1, x.in(2, 1));

        promise(11, "FULL: the ROOM has PLACES of CHILDREN.");
        x.room(71, 2);
        x.room(71, 1);
        children(1, 2, 3);
        x.in(0, 0);
        due(2, x.in(1, 0));
        due(FULL, x.in(2, 0));
        due(-1, x.childIs(2, 5));
        x.fetches(0, 0, true);
        x.over(0, 0);
        due(2, x.in(2, 0));
        due(FULL, x.in(0, 0));
        due(1, x.in(0, 1));
    }

    private static void to() {
        promise(12, "A CHILD that is IN goes to another ROOM: where it was.");
        rooms(3, 5);
        children(1, 1);
        x.in(0, 2);
        x.in(1, 2);
        x.sleeps(0, true);
        due(2, x.to(0, 0));
        due(0, x.to(0, 1));
        due(1, x.childIs(0, 5));
        due(1, x.childIs(0, 6));
        due(2, x.childIs(1, 5));
        due(1, x.now(1, 0));
        due(2, x.all(3));
        due(2, x.all(5));
        due(1, x.all(6));
    }

    private static void toRefused() {
        promise(12, "BEYOND.");
        due(BEYOND, x.to(0, 0));
        childrenIn(1);
        for (int each : row(1, -1, LOW, HIGH)) {
            due(BEYOND, x.to(each, 0));
            due(BEYOND, x.to(0, each));
        }
        due(0, x.childIs(0, 5));

        promise(12, "NONE: it is not IN.");
        childrenIn(1);
        rooms(1, 5);
        children(1);
        due(NONE, x.to(1, 0));
        x.over(0, 0);
        due(NONE, x.to(0, 0));
        due(NONE, x.to(0, 1));
        due(-1, x.childIs(0, 5));

        promise(12, "TAKEN: it is there.");
        childrenIn(1);
        rooms(1, 5);
        due(TAKEN, x.to(0, 0));
        due(0, x.to(0, 1));
        due(TAKEN, x.to(0, 1));
        due(1, x.to(0, 0));

        promise(12, "KIND, FULL as of in().");
        rooms(1, 9);
        x.room(1020, 2);
        children(9, 10, 20, 21, 15);
        for (int c = 0; c < 5; c++) {
            x.in(c, 0);
        }
        int[] answers = {KIND, 0, 0, KIND, FULL};
        for (int c = 0; c < 5; c++) {
            due(answers[c], x.to(c, 1));
        }
        due(1, x.to(2, 0));
        due(0, x.to(4, 1));
        due(FULL, x.to(2, 1));
        x.month(1);
        due(KIND, x.to(2, 1));
        due(0, x.childIs(2, 5));
    }

    private static void over() {
        promise(13, "A CHILD is handed over to a PERSON and goes out: 1.");
        childrenIn(2);
        x.sleeps(0, true);
        due(1, x.over(0, 0));
        due(-1, x.childIs(0, 5));
        due(0, x.childIs(0, 6));
        due(2, x.now(0, 0));
        due(3, x.all(5));
        due(2, x.all(6));
        due(1, x.over(1, 0));
        due(2, x.all(6));
        due(0, x.all(3));

        promise(13, "BEYOND.");
        due(BEYOND, x.over(0, 0));
        childrenIn(1);
        for (int child : row(1, -1, LOW, HIGH)) {
            due(BEYOND, x.over(child, 0));
        }
        for (int person : row(16, -1, 32, LOW, HIGH)) {
            due(BEYOND, x.over(0, person));
        }
        due(1, x.all(3));

        promise(13, "NONE: it is not IN.");
        childrenIn(1);
        children(1);
        due(NONE, x.over(1, 0));
        x.over(0, 0);
        due(NONE, x.over(0, 0));
        due(2, x.all(5));

        promise(13, "BARRED: the PERSON is not named for it.");
        childrenIn(2);
        x.fetches(1, 15, true);
        due(BARRED, x.over(0, 15));
        due(BARRED, x.over(0, 1));
        x.fetches(0, 0, false);
        due(BARRED, x.over(0, 0));
        due(2, x.all(3));
        due(1, x.over(1, 15));
    }

    private static void fetches() {
        promise(14, "A PERSON is named for a CHILD, or no more: 1 if that is new, else 0.");
        children(1, 1);
        for (int person = 0; person < 16; person += 15) {
            due(0, x.fetches(0, person, false));
            due(1, x.fetches(0, person, true));
            due(0, x.fetches(0, person, true));
            due(1 << person, x.childIs(0, 8));
            due(1, x.fetches(0, person, false));
            due(0, x.fetches(0, person, false));
            due(0, x.childIs(0, 8));
        }
        x.fetches(0, 3, true);
        due(1, x.fetches(1, 3, true));
        due(1, x.fetches(0, 3, false));
        due(8, x.childIs(1, 8));

        promise(14, "BEYOND.");
        due(BEYOND, x.fetches(0, 0, true));
        children(1);
        for (int child : row(1, -1, LOW, HIGH)) {
            due(BEYOND, x.fetches(child, 0, true));
        }
        for (int person : row(16, -1, 32, LOW, HIGH)) {
            due(BEYOND, x.fetches(0, person, true));
            due(BEYOND, x.fetches(0, person, false));
        }
        due(0, x.childIs(0, 8));
    }

    private static void place() {
        promise(15, "A HAND goes to a ROOM (-1: none): where it was (-1, no finding).");
        rooms(5, 1);
        hands(0, 3);
        due(-1, x.place(0, -1));
        due(-1, x.place(0, 4));
        due(1, x.now(4, 1));
        due(4, x.place(0, 4));
        due(4, x.place(0, 0));
        due(-1, x.place(1, 0));
        due(3, x.now(0, 1));
        due(0, x.place(0, -1));
        due(2, x.now(0, 1));
        due(0, x.all(7));

        promise(15, "BEYOND.");
        due(BEYOND, x.place(0, -1));
        rooms(1, 1);
        hands(0);
        for (int hand : row(1, -1, LOW, HIGH)) {
            due(BEYOND, x.place(hand, 0));
        }
        for (int room : row(1, -2, LOW, HIGH)) {
            due(BEYOND, x.place(0, room));
        }
        due(0, x.now(0, 1));

        promise(15, "NONE: it is ILL.");
        rooms(1, 1);
        hands(0, 0);
        x.place(0, 0);
        x.ill(0);
        due(NONE, x.place(0, 0));
        due(NONE, x.place(0, -1));
        due(-1, x.place(1, 0));
        due(2, x.now(0, 1));
        x.day();
        due(-1, x.place(0, 0));
    }

    private static void ill() {
        promise(16, "A HAND is ILL today: where it was (-1: in no ROOM, no finding).");
        rooms(2, 1);
        hands(0, 1, 2);
        x.place(0, 1);
        x.place(1, 0);
        due(1, x.ill(0));
        due(0, x.ill(1));
        due(-1, x.ill(2));
        due(0, x.all(7));
        due(0, x.now(0, 1));
        due(0, x.now(1, 1));
        x.day();
        due(-1, x.ill(0));

        promise(16, "BEYOND.");
        due(BEYOND, x.ill(0));
        hands(0);
        for (int hand : row(1, -1, LOW, HIGH)) {
            due(BEYOND, x.ill(hand));
        }
        due(-1, x.ill(0));

        promise(16, "TAKEN: it is.");
        hands(0, 0);
        x.ill(0);
        due(TAKEN, x.ill(0));
        due(-1, x.ill(1));
        due(TAKEN, x.ill(0));
        x.undo();
        x.undo();
        due(-1, x.ill(0));
    }

    private static void now() {
        promise(17, "Of a ROOM now: 0 CHILDREN in it, as bits, 1 HANDS, as bits, 2 NEED, 3 WORTHS of its HANDS, 4 whether it has ENOUGH (1, 0).");
        rooms(2, 5);
        hands(3, 0, 2);
        children(1, 30);
        nowIs(0, 0, 0, 0, 0, 1);
        x.in(1, 0);
        nowIs(0, 2, 0, 2, 0, 0);
        x.in(0, 0);
        x.place(0, 0);
        nowIs(0, 3, 1, 4, 0, 0);
        x.place(1, 0);
        nowIs(0, 3, 3, 4, 2, 0);
        x.place(2, 0);
        nowIs(0, 3, 7, 4, 5, 1);
        nowIs(1, 0, 0, 0, 0, 1);
        due(0, x.all(7));

        promise(17, "BEYOND: no such ROOM, or another what.");
        for (int what = 0; what < 5; what++) {
            due(BEYOND, x.now(0, what));
        }
        rooms(1, 1);
        for (int room : row(1, -1, LOW, HIGH)) {
            due(BEYOND, x.now(room, 0));
        }
        for (int what : row(5, -1, LOW, HIGH)) {
            due(BEYOND, x.now(0, what));
        }
        due(13, x.all(7));
    }

    private static void nowIs(int room, int... is) {
        for (int what = 0; what < is.length; what++) {
            due(is[what], x.now(room, what));
        }
    }

    private static void lacking() {
        promise(18, "SHORT, as bits.");
        due(0, x.lacking());
        rooms(5, 2);
        due(0, x.lacking());
        children(1, 1, 1, 1, 1);
        int[] lacks = {1, 3, 7, 15, 31};
        for (int c = 0; c < 5; c++) {
            x.in(c, c);
            due(lacks[c], x.lacking());
        }
        hands(1, 2, 0);
        x.place(0, 4);
        due(15, x.lacking());
        x.place(1, 0);
        due(14, x.lacking());
        x.place(2, 2);
        due(14, x.lacking());
        x.day();
        due(0, x.lacking());
    }

    private static void moves() {
        promise(19, "How many HANDS MOVES move.");
        due(0, x.moves());
        rooms(3, 5);
        hands(1, 1, 1);
        due(0, x.moves());
        children(1, 1, 1);
        for (int c = 0; c < 3; c++) {
            x.in(c, c);
            due(c + 1, x.moves());
        }
        for (int h = 0; h < 3; h++) {
            x.place(h, (h + 1) % 3);
        }
        due(0, x.moves());
        x.place(0, 0);
        due(1, x.moves());
        x.place(0, -1);
        due(1, x.moves());

        promise(19, "NONE: there are none such.");
        rooms(1, 5);
        children(1);
        x.in(0, 0);
        due(NONE, x.moves());
        hands(0, 3);
        due(NONE, x.moves());
        hands(1);
        due(1, x.moves());
        x.ill(2);
        due(NONE, x.moves());
        hands(2);
        due(1, x.moves());
        ratio(15);
        due(2, x.moves());
        ratio(16);
        due(NONE, x.moves());
    }

    private static void moved() {
        promise(20, "The ROOM of a HAND by MOVES (-1: none, no finding).");
        rooms(2, 5);
        hands(1, 1, 0);
        children(1);
        x.in(0, 1);
        due(-1, x.moved(0));
        due(1, x.moved(1));
        due(-1, x.moved(2));
        x.place(0, 0);
        due(0, x.moved(0));
        x.place(1, 0);
        due(0, x.moved(0));
        due(1, x.moved(1));
        due(0, x.place(0, 1));
        due(1, x.moved(0));
        due(0, x.moved(1));
        due(0, x.all(7));

        promise(20, "BEYOND: no such HAND.");
        due(BEYOND, x.moved(0));
        hands(0);
        for (int hand : row(1, -1, LOW, HIGH)) {
            due(BEYOND, x.moved(hand));
        }
        childrenIn(1);
        due(NONE, x.moves());
        due(BEYOND, x.moved(1));

        promise(20, "NONE: it is ILL, or there are none such.");
        rooms(1, 5);
        hands(0, 0);
        x.ill(0);
        due(NONE, x.moved(0));
        due(-1, x.moved(1));
        ratio(12);
        due(0, x.moved(1));
        due(NONE, x.moved(0));
        ratio(13);
        due(NONE, x.moved(1));
        due(NONE, x.moved(0));
    }

    /** The first hand and the last one are among those that go. */
    private static void allMove() {
        fresh();
        rooms(5, 1);
        hands(1, 1, 1, 1, 1, 1, 1);
        ratio(12);
        for (int h = 0; h < 7; h++) {
            x.place(h, h < 3 ? 0 : 1);
        }
        due(3, x.moves());
        due(3, x.move());
        int[] handsIn = {1 + 2 + 4, 8, 16, 32, 64};
        for (int r = 0; r < 5; r++) {
            due(handsIn[r], x.now(r, 1));
        }
        for (int h = 0; h < 3; h++) {
            x.place(h, 4);
        }
        due(1, x.move());
        due(1, x.now(0, 1));
        due(2 + 4 + 64, x.now(4, 1));
    }

    private static void move() {
        promise(21, "All go by MOVES: how many moved.");
        due(0, x.move());
        rooms(2, 5);
        hands(0, 1, 1, 3);
        children(1, 1);
        x.in(0, 0);
        x.in(1, 1);
        x.place(2, 0);
        x.ill(3);
        due(1, x.moves());
        due(1, x.move());
        due(4, x.now(0, 1));
        due(2, x.now(1, 1));
        due(0, x.lacking());
        due(0, x.move());
        due(NONE, x.place(3, 0));
        due(-1, x.place(0, 0));
        x.place(1, 0);
        x.place(2, 0);
        due(1, x.move());
        due(1 + 2, x.now(0, 1));
        due(4, x.now(1, 1));
        allMove();

        promise(21, "NONE: there are none such.");
        rooms(1, 5);
        hands(0);
        children(1);
        x.in(0, 0);
        due(NONE, x.move());
        due(0, x.now(0, 1));
        hands(1);
        due(1, x.move());
        due(2, x.now(0, 1));
    }
}
