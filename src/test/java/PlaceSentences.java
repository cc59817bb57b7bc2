/** The sentences of promises 30 to 36: places ahead, bills. */
final class PlaceSentences extends Reading {
    static void read() {
        waits();
        list();
        earliest();
        earliestRefused();
        admit();
        admitRefused();
        places();
        rate();
        bill();
    }

    private static void waits() {
        promise(30, "A CHILD is put at THE LIST'S end: how many wait.");
        children(0, 1, 2, 3, 4, 5, 6, 7, 8, 9);
        for (int c = 9; c >= 0; c--) {
            due(10 - c, x.waits(c));
            due(c, x.list(9 - c));
        }
        due(9, x.list(0));
        x.undo();
        due(10, x.waits(0));
        due(0, x.list(9));

        promise(30, "BEYOND.");
        due(BEYOND, x.waits(0));
        children(0);
        for (int child : row(1, -1, LOW, HIGH)) {
            due(BEYOND, x.waits(child));
        }
        due(NONE, x.list(0));

        promise(30, "TAKEN: it waits, or is ADMITTED.");
        children(0, 0);
        due(1, x.waits(0));
        due(TAKEN, x.waits(0));
        due(NONE, x.list(1));
        x.admit(0);
        due(TAKEN, x.waits(0));
        due(NONE, x.list(0));
        x.admit(1);
        due(TAKEN, x.waits(1));
        x.undo();
        due(1, x.waits(1));
    }

    private static void list() {
        promise(31, "Who is at place i of THE LIST (siblings ahead).");
        for (int sibling : row(-1, 0, -1, 0)) {
            x.child(0, sibling, 31, 60);
        }
        x.waits(2);
        x.waits(3);
        x.waits(1);
        listIs(2, 3, 1);
        x.admit(0);
        listIs(3, 1, 2);
        x.admit(3);
        listIs(1, 2);
        x.admit(1);
        listIs(2);
        x.admit(2);
        listIs();

        promise(31, "BEYOND: i is below 0.");
        for (int i : row(-1, -2, LOW)) {
            due(BEYOND, x.list(i));
        }
        children(0);
        x.waits(0);
        due(BEYOND, x.list(-1));

        promise(31, "NONE: there is nobody.");
        due(NONE, x.list(0));
        children(0, 0);
        due(NONE, x.list(0));
        x.waits(1);
        due(1, x.list(0));
        due(NONE, x.list(1));
        due(NONE, x.list(10));
        due(NONE, x.list(HIGH));
    }

    private static void listIs(int... children) {
        for (int i = 0; i < children.length; i++) {
            due(children[i], x.list(i));
        }
        due(NONE, x.list(children.length));
    }

    private static void earliest() {
        promise(32, "The least month, its FIRST or later, from which on a CHILD CAN be ADMITTED.");
        due(0, earliestOf(60));
        due(7, earliestOf(760));
        due(60, earliestOf(6060));
        due(21, earliestOf(60, 1020));
        due(21, earliestOf(2060, 1020));
        due(21, earliestOf(2160, 1020));
        due(22, earliestOf(2260, 1020));
        due(0, earliestOf(9, 1020));
        due(60, earliestOf(60, 59));
        due(41, earliestOf(60, 1020, 4040));
    }

    /** The least month for a child of such months in a room of one place that others have. */
    private static int earliestOf(int months, int... others) {
        fresh();
        x.room(71, 1);
        for (int other : others) {
            x.child(0, -1, 31, other);
        }
        for (int c = 0; c < others.length; c++) {
            due(others[c] / 100, x.admit(c));
        }
        x.child(0, -1, 31, months);
        return x.earliest(others.length);
    }

    private static void earliestRefused() {
        promise(32, "BEYOND.");
        due(BEYOND, x.earliest(0));
        children(0);
        for (int child : row(1, -1, LOW, HIGH)) {
            due(BEYOND, x.earliest(child));
        }

        promise(32, "TAKEN: it is ADMITTED.");
        children(0);
        due(0, x.earliest(0));
        x.waits(0);
        due(0, x.earliest(0));
        x.admit(0);
        due(TAKEN, x.earliest(0));
        x.undo();
        due(0, x.earliest(0));

        promise(32, "NONE: there is none.");
        due(NONE, earliestOf(20, 1020));
        due(NONE, earliestOf(1010, 1010));
        due(NONE, earliestOf(6060, 6060));
        due(NONE, earliestOf(60, 6060));
        due(21, earliestOf(21, 1020));
    }

    private static void admit() {
        promise(33, "A CHILD is ADMITTED from the least month on (its FIRST is that then); it waits no more: that month.");
        x.room(71, 1);
        x.child(0, -1, 31, 520);
        x.child(0, -1, 31, 60);
        x.child(0, -1, 31, 60);
        x.waits(2);
        x.waits(1);
        x.waits(0);
        due(5, x.admit(0));
        due(2, x.list(0));
        due(NONE, x.list(2));
        due(21, x.admit(1));
        due(21, x.childIs(1, 3));
        due(60, x.childIs(1, 4));
        due(1, x.childIs(1, 7));
        due(0, x.childIs(2, 7));
        due(0, x.places(0, 0, 4));
        due(1, x.places(0, 0, 5));
        due(1, x.places(0, 0, 21));
        due(2, x.list(0));
        due(NONE, x.list(1));
        due(2, x.all(7));
    }

    private static void admitRefused() {
        promise(33, "BEYOND.");
        due(BEYOND, x.admit(0));
        children(0);
        for (int child : row(1, -1, LOW, HIGH)) {
            due(BEYOND, x.admit(child));
        }
        due(0, x.childIs(0, 7));

        promise(33, "TAKEN, NONE as of earliest().");
        x.room(71, 1);
        x.child(0, -1, 31, 20);
        x.child(0, -1, 31, 20);
        x.child(0, -1, 31, 21);
        due(0, x.admit(0));
        due(TAKEN, x.admit(0));
        x.waits(1);
        due(NONE, x.admit(1));
        due(0, x.childIs(1, 7));
        due(0, x.childIs(1, 3));
        due(1, x.list(0));
        due(21, x.admit(2));
        due(TAKEN, x.admit(2));
    }

    private static void places() {
        promise(34, "How many CHILDREN a ROOM has on a day of a month.");
        x.room(23, 20);
        x.room(2471, 20);
        for (int c = 0; c < 10; c++) {
            x.child(0, -1, 1 << c % 5, 60);
            due(0, x.admit(c));
        }
        for (int day = 0; day < 5; day++) {
            due(2, x.places(0, day, 0));
            due(2, x.places(0, day, 23));
            due(0, x.places(0, day, 24));
            due(0, x.places(1, day, 23));
            due(2, x.places(1, day, 24));
            due(2, x.places(1, day, 60));
        }

        promise(34, "BEYOND.");
        due(BEYOND, x.places(0, 0, 0));
        rooms(1, 1);
        for (int room : row(1, -1, LOW, HIGH)) {
            due(BEYOND, x.places(room, 0, 0));
        }
        for (int day : row(-1, 5, LOW, HIGH)) {
            due(BEYOND, x.places(0, day, 0));
        }
        for (int month : row(-1, 61, LOW, HIGH)) {
            due(BEYOND, x.places(0, 0, month));
        }
        due(0, x.places(0, 4, 60));
    }

    private static void rate() {
        promise(35, "RATE becomes v: what it was.");
        due(10, x.rate(1));
        due(1, x.rate(99));
        due(99, x.rate(99));
        due(99, x.rate(10));

        promise(35, "BEYOND.");
        for (int v : row(0, -1, 100, LOW, HIGH)) {
            due(BEYOND, x.rate(v));
        }
        due(10, x.rate(10));
    }

    private static void bill() {
        promise(36, "BILL of a CHILD for a week in which it was away on a set of its days; funded hours; in term, or not.");
        childrenIn(1);
        x.child(0, -1, 21, 60);
        due(500, x.bill(0, 0, 0, true));
        due(300, x.bill(1, 0, 0, true));
        for (int day = 0; day < 5; day++) {
            due(400, x.bill(0, 1 << day, 0, true));
            due(day % 2 == 0 ? 200 : 300, x.bill(1, 1 << day, 0, true));
        }
        due(0, x.bill(1, 31, 0, true));
        due(290, x.bill(1, 0, 1, true));
        due(10, x.bill(1, 0, 29, true));
        due(0, x.bill(1, 0, 30, true));
        due(300, x.bill(1, 0, 30, false));
        due(0, x.bill(1, 1, 30, true));
        x.slot(59);
        x.over(0, 0);
        due(525, x.bill(0, 0, 0, false));
        due(25, x.bill(0, 31, 30, true));

        promise(36, "BEYOND: no such CHILD, away is not 0 to 31, funded.");
        due(BEYOND, x.bill(0, 0, 0, true));
        children(0);
        for (int child : row(1, -1, LOW, HIGH)) {
            due(BEYOND, x.bill(child, 0, 0, true));
        }
        for (int away : row(-1, 32, LOW, HIGH)) {
            due(BEYOND, x.bill(0, away, 0, true));
        }
        for (int funded : row(-1, 31, LOW, HIGH)) {
            due(BEYOND, x.bill(0, 0, funded, true));
            due(BEYOND, x.bill(0, 0, funded, false));
        }
    }
}
