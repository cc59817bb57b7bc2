/** The sentences of promises 1 to 8: a new object; rooms, hands, children. */
final class RoomSentences extends Reading {
    static void read() {
        newObject();
        room();
        hand();
        as();
        child();
        childIs();
        childIsBeyond();
        roomOf();
        month();
    }

    private static void newObject() {
        promise(1, "No ROOMS, HANDS, CHILDREN;");
        for (int what = 0; what < 8; what++) {
            due(0, x.all(what));
        }
        due(BEYOND, x.now(0, 0));
        due(BEYOND, x.as(0, 0));
        due(BEYOND, x.moved(0));
        due(BEYOND, x.childIs(0, 0));
        due(0, x.lacking());
        due(0, x.moves());
        due(0, x.move());
        due(0, x.roll(0, -1));
        due(BEYOND, x.roll(0, 0));
        due(NONE, x.list(0));
        due(0, x.day());

        promise(1, "an empty text;");
        due(0, x.wrong());
        childrenIn(1);
        due(2, x.now(0, 2));

        promise(1, "SLOT, MONTH 0;");
        due(0, x.all(4));
        due(0, x.slot(1));
        due(0, x.month(1));

        promise(1, "LONG 36;");
        x.needed(0, 35, 1);
        due(1, x.shifts(-1));
        x.needed(36, 36, 1);
        due(2, x.shifts(-1));
        due(24, x.shifts(1));
        due(36, x.longer(1));

        promise(1, "sheets MISSING.");
        for (int s = 0; s < 4; s++) {
            due(MISSING, x.text(s));
            due(MISSING, x.proves(s));
            due(MISSING, x.put(s, 0, 0));
            due(MISSING, x.copy(s, 0, s, 0, 0));
        }
    }

    private static void room() {
        promise(2, "A new ROOM: its number.");
        for (int r = 0; r < 5; r++) {
            due(r, x.room(71, 1));
            due(r + 1, x.all(0));
            due(0, x.now(r, 0));
            due(0, x.now(r, 1));
        }

        promise(2, "BEYOND: ages (100 times from, and to), PLACES.");
        for (int ages : row(-1, -100, LOW, 72, 99, 172, 199, 7172, 7199, 7200, 7271, 10000, HIGH)) {
            due(BEYOND, x.room(ages, 1));
        }
        for (int places : row(0, -1, 21, LOW, HIGH)) {
            due(BEYOND, x.room(71, places));
        }
        due(0, x.all(0));
        due(0, x.room(0, 1));
        due(1, x.room(7171, 20));
        due(2, x.room(71, 1));
        due(3, x.room(71, 20));

        promise(2, "SIZE: from is above to.");
        for (int ages : row(100, 2322, 7170, 7100)) {
            due(SIZE, x.room(ages, 1));
        }
        due(0, x.all(0));
        due(0, x.room(2323, 1));
        due(1, x.room(2324, 1));

        promise(2, "FULL: there are 5.");
        rooms(4, 1);
        due(4, x.room(71, 1));
        due(FULL, x.room(71, 1));
        due(5, x.all(0));
        x.undo();
        due(4, x.room(71, 1));
        due(FULL, x.room(71, 1));
    }

    private static void hand() {
        promise(3, "A new HAND, in no ROOM: its number.");
        rooms(1, 1);
        for (int h = 0; h < 7; h++) {
            due(h, x.hand(h % 4));
            due(h + 1, x.all(1));
            due(0, x.now(0, 1));
            due(-1, x.moved(h));
        }
        due(-1, x.place(6, 0));
        due(-1, x.ill(0));

        promise(3, "BEYOND: no such kind.");
        for (int kind : row(-1, 4, LOW, HIGH)) {
            due(BEYOND, x.hand(kind));
        }
        due(0, x.all(1));
        due(0, x.hand(0));
        due(1, x.hand(3));

        promise(3, "FULL: there are 7.");
        hands(0, 1, 2, 3, 0, 1);
        due(6, x.hand(2));
        for (int kind = 0; kind < 4; kind++) {
            due(FULL, x.hand(kind));
        }
        due(7, x.all(1));
        x.undo();
        due(6, x.hand(3));
        due(FULL, x.hand(3));
    }

    private static void as() {
        promise(4, "A HAND as one of a kind: its number.");
        hands(3, 2, 1, 0);
        due(0, x.as(0, 3));
        due(0, x.as(0, 0));
        due(1, x.as(1, 2));
        due(1, x.as(1, 1));
        due(1, x.as(1, 0));
        due(2, x.as(2, 1));
        due(2, x.as(2, 0));
        due(3, x.as(3, 0));

        promise(4, "BEYOND: no such HAND, or kind.");
        due(BEYOND, x.as(0, 0));
        hands(0);
        for (int hand : row(1, -1, LOW, HIGH)) {
            due(BEYOND, x.as(hand, 0));
        }
        for (int kind : row(-1, 4, LOW, HIGH)) {
            due(BEYOND, x.as(0, kind));
        }

        promise(4, "KIND: it is not of that kind, nor of one under it.");
        hands(0, 1, 2, 3);
        int[][] not = {{0, 1}, {0, 2}, {0, 3}, {1, 2}, {1, 3}, {2, 3}, {3, 1}, {3, 2}};
        for (int[] each : not) {
            due(KIND, x.as(each[0], each[1]));
        }
        due(8, x.all(7));
    }

    private static void child() {
        promise(5, "A new CHILD, not IN, not ADMITTED: its number.");
        x.room(71, 20);
        for (int c = 0; c < 10; c++) {
            due(c, x.child(0, c - 1, 31, 60));
            due(c + 1, x.all(2));
            due(-1, x.childIs(c, 5));
            due(0, x.childIs(c, 6));
            due(0, x.childIs(c, 7));
            due(0, x.childIs(c, 8));
        }
        due(0, x.places(0, 0, 0));
        due(0, x.all(3));
        due(NONE, x.list(0));

        promise(5, "BEYOND: BIRTH, SIBLING (-1: none), SESSIONS (0 to 31), months (100 times FIRST, and LAST).");
        for (int birth : row(-72, 61, LOW, HIGH)) {
            due(BEYOND, x.child(birth, -1, 31, 60));
        }
        for (int sibling : row(-2, 0, 1, LOW, HIGH)) {
            due(BEYOND, x.child(0, sibling, 31, 60));
        }
        for (int sessions : row(-1, 32, LOW, HIGH)) {
            due(BEYOND, x.child(0, -1, sessions, 60));
        }
        for (int months : row(-1, -100, LOW, 61, 99, 161, 6061, 6099, 6100, 6161, HIGH)) {
            due(BEYOND, x.child(0, -1, 31, months));
        }
        due(0, x.all(2));
        due(0, x.child(-71, -1, 0, 0));
        due(1, x.child(60, 0, 31, 6060));
        due(BEYOND, x.child(0, 2, 31, 60));
        due(2, x.child(0, 1, 31, 60));

        promise(5, "SIZE: FIRST is above LAST.");
        for (int months : row(100, 3029, 6059, 6000)) {
            due(SIZE, x.child(0, -1, 31, months));
        }
        due(0, x.all(2));
        due(0, x.child(0, -1, 31, 3030));
        due(1, x.child(0, -1, 31, 3031));

        promise(5, "FULL: there are 10.");
        children(1, 2, 3, 4, 5, 6, 7, 8, 9);
        due(9, x.child(0, -1, 31, 60));
        due(FULL, x.child(0, -1, 31, 60));
        due(10, x.all(2));
        x.undo();
        due(9, x.child(0, 8, 31, 60));
        due(FULL, x.child(0, 9, 31, 60));
    }

    private static void childIs() {
        promise(6, "Of a CHILD: 0 BIRTH, 1 SIBLING (-1: none, no finding), 2 SESSIONS, 3 FIRST, 4 LAST, 5 the ROOM in which it is (-1: not IN, no finding), 6 whether it SLEEPS, 7 is ADMITTED (1, 0), 8 who FETCHES it, as bits.");
        rooms(2, 5);
        x.child(-5, -1, 3, 1230);
        x.child(7, 0, 31, 60);
        childIsAll(0, -5, -1, 3, 12, 30, -1, 0, 0, 0);
        childIsAll(1, 7, 0, 31, 0, 60, -1, 0, 0, 0);
        x.in(0, 1);
        x.sleeps(0, true);
        x.fetches(0, 0, true);
        x.fetches(0, 15, true);
        childIsAll(0, -5, -1, 3, 12, 30, 1, 1, 0, 32769);
        x.admit(0);
        x.to(0, 0);
        x.fetches(0, 0, false);
        childIsAll(0, -5, -1, 3, 12, 30, 0, 1, 1, 32768);
        x.over(0, 15);
        childIsAll(0, -5, -1, 3, 12, 30, -1, 0, 1, 32768);
        childIsAll(1, 7, 0, 31, 0, 60, -1, 0, 0, 0);
        due(0, x.all(7));
    }

    private static void childIsAll(int child, int... is) {
        for (int what = 0; what < is.length; what++) {
            due(is[what], x.childIs(child, what));
        }
    }

    private static void childIsBeyond() {
        promise(6, "BEYOND: no such CHILD, or another what.");
        for (int what = 0; what < 9; what++) {
            due(BEYOND, x.childIs(0, what));
        }
        children(1);
        for (int child : row(1, -1, LOW, HIGH)) {
            due(BEYOND, x.childIs(child, 0));
        }
        for (int what : row(-1, 9, LOW, HIGH)) {
            due(BEYOND, x.childIs(0, what));
        }
        due(17, x.all(7));
    }

    private static void roomOf() {
        promise(7, "Its ROOM in a month (0 to 60).");
        x.room(59, 1);
        x.room(6071, 1);
        x.child(0, -1, 0, 3030);
        due(0, x.roomOf(0, 0));
        due(0, x.roomOf(0, 59));
        due(1, x.roomOf(0, 60));

        promise(7, "BEYOND.");
        rooms(1, 1);
        due(BEYOND, x.roomOf(0, 0));
        children(0);
        for (int child : row(1, -1, LOW, HIGH)) {
            due(BEYOND, x.roomOf(child, 0));
        }
        for (int month : row(-1, 61, LOW, HIGH)) {
            due(BEYOND, x.roomOf(0, month));
        }

        promise(7, "NONE: it has none.");
        x.child(10, -1, 31, 60);
        x.child(-71, -1, 31, 60);
        due(NONE, x.roomOf(0, 20));
        x.room(4, 1);
        due(NONE, x.roomOf(0, 9));
        due(0, x.roomOf(0, 10));
        due(0, x.roomOf(0, 14));
        due(NONE, x.roomOf(0, 15));
        x.room(71, 1);
        due(NONE, x.roomOf(0, 9));
        due(1, x.roomOf(1, 0));
        due(NONE, x.roomOf(1, 1));
    }

    private static void month() {
        promise(8, "THE MONTH becomes v (0 to 60): what it was.");
        due(0, x.month(60));
        due(60, x.month(7));
        due(7, x.month(7));
        due(7, x.month(0));
        due(0, x.month(60));

        promise(8, "BEYOND.");
        x.month(30);
        for (int v : row(-1, 61, LOW, HIGH)) {
            due(BEYOND, x.month(v));
        }
        due(30, x.month(30));
    }
}
