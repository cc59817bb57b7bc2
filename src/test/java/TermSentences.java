/** The sentences of the document's terms. */
final class TermSentences extends Reading {
    static void read() {
        findings();
        order();
        sets();
        roomsHandsChildren();
        agesAndRooms();
        dayAndHands();
        enough();
        ratioLimits();
        ratioCounts();
        ratioJoins();
        usualNeed();
        movesAll();
        movesOrder();
        rolls();
        missedStretches();
        fortyOfSleep();
        shifts();
        placesAhead();
        list();
        bills();
        sheets();
    }

    private static void findings() {
        term(0, "FINDINGS are answers below -99999: -100001 BEYOND, -100002 MISSING, -100003 SIZE, -100004 KIND, -100005 FULL, -100006 NONE, -100007 TAKEN, -100008 BARRED.");
        x.room(1071, 1);
        children(20, 20, 5);
        due(-100001, x.all(8));
        due(-100002, x.text(0));
        due(-100003, x.room(100, 1));
        due(-100004, x.in(2, 0));
        due(1, x.in(0, 0));
        due(-100005, x.in(1, 0));
        due(-100006, x.over(1, 0));
        due(-100007, x.in(0, 0));
        due(-100008, x.over(0, 0));
    }

    /** Calls that two findings fit: the one that is asked first is told. */
    private static void order() {
        term(0, "Each act tells its findings in the order in which they are asked;");
        orderOfNew();
        orderOfIn();
        orderOfTo();
        orderOfOthers();
        orderOfSheets();
    }

    private static void orderOfNew() {
        rooms(1, 1);
        due(BEYOND, x.room(100, 0));
        due(BEYOND, x.room(100, 21));
        due(BEYOND, x.room(7200, 1));
        due(BEYOND, x.child(-72, -1, 0, 100));
        due(BEYOND, x.child(0, 0, 0, 100));
        due(BEYOND, x.child(0, -1, 32, 100));
        due(BEYOND, x.child(0, -1, 0, 6160));
        due(BEYOND, x.child(0, -1, 0, 6100));
        rooms(4, 1);
        due(SIZE, x.room(100, 1));
        due(BEYOND, x.room(72, 1));
        due(BEYOND, x.room(0, 0));
        hands(0, 0, 0, 0, 0, 0, 0);
        due(BEYOND, x.hand(4));
        children(0, 0, 0, 0, 0, 0, 0, 0, 0, 0);
        due(SIZE, x.child(0, -1, 0, 100));
        due(BEYOND, x.child(61, -1, 0, 0));
        due(BEYOND, x.child(0, 10, 0, 0));
        due(BEYOND, x.child(0, -1, -1, 0));
        due(BEYOND, x.child(0, -1, 0, 61));
    }

    private static void orderOfIn() {
        fresh();
        x.room(20, 1);
        x.room(2171, 1);
        children(10, 30, 30);
        x.in(0, 0);
        x.in(1, 1);
        due(BEYOND, x.in(0, 2));
        due(BEYOND, x.in(3, 0));
        due(TAKEN, x.in(0, 0));
        due(TAKEN, x.in(0, 1));
        due(KIND, x.in(2, 0));
        due(FULL, x.in(2, 1));
    }

    private static void orderOfTo() {
        fresh();
        x.room(20, 1);
        x.room(2171, 1);
        x.room(71, 2);
        children(10, 30, 30, 10);
        x.in(0, 0);
        x.in(1, 1);
        due(BEYOND, x.to(2, 3));
        due(NONE, x.to(2, 0));
        due(NONE, x.to(2, 1));
        due(TAKEN, x.to(0, 0));
        x.in(3, 2);
        due(KIND, x.to(3, 1));
        due(FULL, x.to(3, 0));
        x.month(60);
        due(TAKEN, x.to(0, 0));
        due(KIND, x.to(1, 0));
    }

    private static void orderOfOthers() {
        fresh();
        x.room(20, 1);
        x.hand(1);
        x.child(60, -1, 31, 60);
        x.child(0, -1, 31, 20);
        due(BEYOND, x.roomOf(0, 61));
        due(BEYOND, x.roomOf(0, -1));
        due(NONE, x.roomOf(0, 0));
        x.slot(5);
        due(BEYOND, x.slot(-1));
        due(BEYOND, x.over(1, 16));
        due(NONE, x.over(1, 0));
        x.in(1, 0);
        due(BEYOND, x.over(1, 16));
        due(BARRED, x.over(1, 0));
        x.ill(0);
        due(BEYOND, x.place(0, 1));
        due(BEYOND, x.place(0, -2));
        due(BEYOND, x.moved(1));
        x.admit(1);
        due(TAKEN, x.earliest(1));
        due(TAKEN, x.admit(1));
    }

    private static void orderOfSheets() {
        fresh();
        due(BEYOND, x.sheet(4, 8, -1));
        due(BEYOND, x.sheet(0, 7, -1));
        due(MISSING, x.put(0, -1, 0));
        due(MISSING, x.put(0, 60, 0));
        due(BEYOND, x.copy(0, 0, 4, 0, 0));
        due(BEYOND, x.copy(-1, 0, 0, 0, 0));
        due(MISSING, x.copy(0, 0, 1, 0, -1));
        x.sheet(0, 8, 15);
        due(SIZE, x.text(0));
        due(MISSING, x.copy(0, 0, 1, 0, -1));
        due(MISSING, x.copy(1, 0, 0, 0, -1));
        x.sheet(1, 16, 1);
        due(KIND, x.copy(0, 0, 1, 0, -1));
        due(KIND, x.copy(0, 0, 1, 0, 2));
    }

    private static void sets() {
        term(0, "Sets are told by bits.");
        rooms(5, 10);
        hands(1, 0, 0, 0, 0, 0, 1);
        children(1, 1, 1, 1, 1, 1, 1, 1, 1, 1);
        x.in(0, 4);
        x.in(9, 4);
        due(1 + 512, x.now(4, 0));
        x.place(1, 4);
        x.place(6, 3);
        due(2, x.now(4, 1));
        due(64, x.now(3, 1));
        due(16, x.lacking());
        x.in(5, 0);
        due(1 + 16, x.lacking());
        x.fetches(0, 0, true);
        x.fetches(0, 15, true);
        due(1 + 32768, x.childIs(0, 8));
        due(31, x.childIs(0, 2));
        due(400, x.bill(0, 16, 0, false));
    }

    private static void roomsHandsChildren() {
        term(1, "ROOMS 0, 1, .. (at most 5) take children of AGES (in months, from, to: 0 to 71; with both), at most PLACES (1 to 20).");
        due(0, x.room(1020, 20));
        due(1, x.room(0, 1));
        due(2, x.room(7171, 1));
        due(3, x.room(1111, 2));
        due(4, x.room(71, 20));
        due(FULL, x.room(71, 20));
        children(9, 10, 20, 21, 0, 71, 11, 11, 11, 0);
        int[] takes = {KIND, 1, 2, KIND};
        for (int c = 0; c < 4; c++) {
            due(takes[c], x.in(c, 0));
        }
        due(1, x.in(4, 1));
        due(FULL, x.in(9, 1));
        due(1, x.in(5, 2));
        due(1, x.in(6, 3));
        due(2, x.in(7, 3));
        due(FULL, x.in(8, 3));
        handsOfKinds();
        childrenAreOf();
        siblings();
        daysAndMonths();
    }

    private static void handsOfKinds() {
        term(1, "HANDS 0, 1, .. (at most 7) are of a kind: 0 HAND, 1 TRAINED under it, 2 LEADER under TRAINED, 3 STUDENT under HAND.");
        int[][] as = {{0, KIND, KIND, KIND}, {1, 1, KIND, KIND}, {2, 2, 2, KIND}, {3, KIND, KIND, 3}};
        for (int kind = 0; kind < 4; kind++) {
            due(kind, x.hand(kind));
        }
        for (int hand = 0; hand < 4; hand++) {
            for (int kind = 0; kind < 4; kind++) {
                due(as[hand][kind], x.as(hand, kind));
            }
        }
        due(4, x.hand(0));
        due(5, x.hand(0));
        due(6, x.hand(0));
        due(FULL, x.hand(0));

        term(1, "WORTH: of a HAND and a TRAINED one 2, of a LEADER 3, of a STUDENT 0.");
        rooms(4, 1);
        for (int kind = 0; kind < 4; kind++) {
            x.hand(kind);
            x.place(kind, kind);
        }
        due(2, x.now(0, 3));
        due(2, x.now(1, 3));
        due(3, x.now(2, 3));
        due(0, x.now(3, 3));
        for (int hand = 0; hand < 4; hand++) {
            x.place(hand, 0);
        }
        due(7, x.now(0, 3));
        due(0, x.now(2, 3));
    }

    private static void childrenAreOf() {
        term(1, "CHILDREN 0, 1, .. (at most 10) have a BIRTH (in months, -71 to 60), a SIBLING (a lesser one, or none;");
        due(0, x.child(-71, -1, 31, 60));
        due(1, x.child(60, 0, 31, 60));
        due(-71, x.childIs(0, 0));
        due(60, x.childIs(1, 0));
        due(BEYOND, x.child(-72, -1, 31, 60));
        due(BEYOND, x.child(61, -1, 31, 60));
        due(BEYOND, x.child(0, 2, 31, 60));
        due(BEYOND, x.child(0, -2, 31, 60));
        due(-1, x.childIs(0, 1));
        due(0, x.childIs(1, 1));
        for (int c = 2; c < 10; c++) {
            due(c, x.child(0, c - 1, 31, 60));
            due(c - 1, x.childIs(c, 1));
        }
        due(FULL, x.child(0, -1, 31, 60));
    }

    private static void siblings() {
        term(1, "SIBLINGS are two of which one is told as the other's, or which have the same one told),");
        due(1, siblingIsAhead(row(-1, 0), 0, 1));
        due(1, siblingIsAhead(row(-1, 0), 1, 0));
        due(1, siblingIsAhead(row(-1, 0, 0), 1, 2));
        due(1, siblingIsAhead(row(-1, 0, 0), 2, 1));
        due(0, siblingIsAhead(row(-1, -1), 0, 1));
        due(0, siblingIsAhead(row(-1, -1), 1, 0));
        due(0, siblingIsAhead(row(-1, 0, 1), 0, 2));
        due(0, siblingIsAhead(row(-1, 0, 1), 2, 0));
        due(0, siblingIsAhead(row(-1, -1, 0, 1), 2, 3));
        due(1, siblingIsAhead(row(-1, 0, 0, 0, 0, 0, 0, 0, 0), 8, 1));
    }

    /** Whether a child comes ahead of one that waits longer once another one is admitted. */
    private static int siblingIsAhead(int[] told, int admitted, int child) {
        fresh();
        for (int sibling : told) {
            x.child(0, sibling, 31, 60);
        }
        int stranger = x.child(0, -1, 31, 60);
        x.waits(stranger);
        x.waits(child);
        due(stranger, x.list(0));
        x.admit(admitted);
        return x.list(0) == child && x.list(1) == stranger ? 1 : 0;
    }

    private static void daysAndMonths() {
        term(1, "SESSIONS (a set of the days 0 to 4), a FIRST month and a LAST one (0 to 60 both, first not above last).");
        x.room(71, 9);
        due(0, x.child(0, -1, 0, 0));
        due(1, x.child(0, -1, 31, 6060));
        due(2, x.child(0, -1, 16, 60));
        due(3, x.child(0, -1, 1, 3030));
        due(BEYOND, x.child(0, -1, 32, 0));
        due(BEYOND, x.child(0, -1, -1, 0));
        due(BEYOND, x.child(0, -1, 1, 61));
        due(BEYOND, x.child(0, -1, 1, 6161));
        due(BEYOND, x.child(0, -1, 1, -1));
        due(SIZE, x.child(0, -1, 1, 3029));
        for (int c = 0; c < 4; c++) {
            x.admit(c);
        }
        due(0, x.places(0, 0, 0));
        due(1, x.places(0, 4, 0));
        due(1, x.places(0, 4, 59));
        due(2, x.places(0, 4, 60));
        due(1, x.places(0, 3, 60));
        due(0, x.places(0, 0, 29));
        due(1, x.places(0, 0, 30));
        due(0, x.places(0, 0, 31));
    }

    private static void agesAndRooms() {
        term(1, "AGE in a month: that less BIRTH;");
        x.room(3030, 1);
        x.child(30, -1, 31, 60);
        x.child(-30, -1, 31, 60);
        due(0, x.roomOf(0, 60));
        due(NONE, x.roomOf(0, 59));
        due(0, x.roomOf(1, 0));
        due(NONE, x.roomOf(1, 1));
        due(1, x.in(1, 0));

        term(1, "a child of an AGE below 0 or above 71 has no ROOM;");
        x.room(71, 20);
        x.child(20, -1, 31, 60);
        x.child(-20, -1, 31, 60);
        due(NONE, x.roomOf(0, 19));
        due(0, x.roomOf(0, 20));
        due(0, x.roomOf(1, 51));
        due(NONE, x.roomOf(1, 52));

        term(1, "else its ROOM in a month is the least one that takes its AGE, if there is one.");
        x.room(1030, 1);
        x.room(2040, 1);
        x.room(40, 1);
        x.room(5060, 1);
        x.child(0, -1, 31, 60);
        int[] at = {0, 2, 9, 2, 10, 0, 30, 0, 31, 1, 40, 1, 41, NONE, 49, NONE, 50, 3, 60, 3};
        for (int i = 0; i < at.length; i += 2) {
            due(at[i + 1], x.roomOf(0, at[i]));
        }
        fresh();
        x.child(0, -1, 31, 60);
        due(NONE, x.roomOf(0, 0));
    }

    private static void dayAndHands() {
        term(2, "A DAY has SLOTS 0 to 59, THE SLOT is 0 at first.");
        due(0, x.all(4));
        due(BEYOND, x.slot(-1));
        due(BEYOND, x.slot(60));
        due(0, x.slot(59));
        due(59, x.all(4));

        term(2, "A CHILD is IN a ROOM, or not; it may SLEEP while it is IN.");
        rooms(2, 5);
        children(10);
        due(-1, x.childIs(0, 5));
        due(NONE, x.sleeps(0, true));
        due(0, x.childIs(0, 6));
        x.in(0, 1);
        due(1, x.childIs(0, 5));
        due(0, x.now(0, 0));
        due(1, x.now(1, 0));
        due(1, x.sleeps(0, true));
        x.fetches(0, 0, true);
        x.over(0, 0);
        due(-1, x.childIs(0, 5));
        due(0, x.childIs(0, 6));
        x.in(0, 0);
        due(0, x.childIs(0, 6));

        term(2, "A HAND is in a ROOM, or in none (ON or not: ILL ones are in none).");
        rooms(2, 5);
        hands(1);
        due(-1, x.place(0, 1));
        due(0, x.now(0, 1));
        due(1, x.now(1, 1));
        due(1, x.ill(0));
        due(0, x.now(1, 1));
        due(0, x.now(1, 3));
    }

    private static void enough() {
        term(2, "NEED of a ROOM: what THE RATIO comes to for it, 0 at least;");
        rooms(1, 5);
        ratio(10, 11, 51);
        due(0, x.now(0, 2));
        ratio(11, 11, 51);
        due(0, x.now(0, 2));
        ratio(12, 11, 51);
        due(1, x.now(0, 2));
        ratio(10, 49, 51, 49, 52);
        due(0, x.now(0, 2));
        due(1, x.now(0, 4));

        term(2, "it has ENOUGH if the WORTHS of its HANDS are NEED at least, and, with CHILDREN in it, one is TRAINED (LEADERS are).");
        rooms(1, 5);
        children(10);
        hands(0, 0, 1, 2, 3);
        due(1, x.now(0, 4));
        ratio(14);
        due(0, x.now(0, 4));
        x.place(0, 0);
        due(0, x.now(0, 4));
        x.place(1, 0);
        due(1, x.now(0, 4));
        x.in(0, 0);
        due(0, x.now(0, 4));
        x.place(4, 0);
        due(0, x.now(0, 4));
        x.place(1, -1);
        x.place(2, 0);
        due(1, x.now(0, 4));
        x.place(2, -1);
        x.place(3, 0);
        due(1, x.now(0, 4));
        x.place(0, -1);
        due(0, x.now(0, 4));
        ratio(13);
        due(1, x.now(0, 4));
        ratio(10);
        x.place(3, -1);
        due(0, x.now(0, 4));

        term(2, "SHORT: ROOMS that have not.");
        rooms(5, 5);
        due(0, x.lacking());
        ratio(5);
        due(2 + 4 + 8 + 16, x.lacking());
        hands(0, 2);
        x.place(0, 2);
        due(2 + 8 + 16, x.lacking());
        x.place(1, 3);
        due(2 + 16, x.lacking());
    }

    private static void ratioLimits() {
        term(2, "THE RATIO: a text of at most 14 SIGNS, worked out by a row of numbers (at most 5):");
        rooms(1, 5);
        ratio(11, 11, 50, 11, 50, 11, 50, 11, 50, 11, 50, 11, 50);
        due(-1, x.wrong());
        due(7, x.now(0, 2));
        write(0, 8, 11, 11, 50, 11, 50, 11, 50, 11, 50, 11, 50, 11, 50, 11);
        due(14, x.text(0));
        write(0, 8, 11, 11, 50, 11, 50, 11, 50, 11, 50, 11, 50, 11, 50, 11, 50);
        due(SIZE, x.text(0));
        ratio(11, 12, 13, 14, 15, 50, 50, 50, 50);
        due(-1, x.wrong());
        due(15, x.now(0, 2));
        ratio(11, 12, 13, 14, 15, 16, 50, 50, 50, 50, 50);
        due(5, x.wrong());
        due(0, x.now(0, 2));

        term(2, "It is RIGHT if there is always enough, never more than 5, and one at its end.");
        rightAt(-1, 10);
        rightAt(0, 50);
        rightAt(1, 10, 51);
        rightAt(1, 10, 52, 10, 10);
        rightAt(3, 10, 10, 53, 54);
        rightAt(2, 10, 10);
        rightAt(3, 10, 10, 10);
        rightAt(-1, 10, 10, 10, 10, 10, 54, 54, 54, 54);
        rightAt(5, 10, 10, 10, 10, 10, 10);
        rightAt(6, 10, 10, 50, 10, 10, 10);
        rightAt(8, 10, 10, 50, 10, 10, 10, 10, 52);
        rightAt(7, 10, 10, 50, 10, 10, 10, 10, 10, 50);
    }

    private static void rightAt(int want, int... signs) {
        ratio(signs);
        due(want, x.wrong());
    }

    private static void ratioCounts() {
        term(2, "1 CHILDREN of the ROOM who are below 24 months, 2 of 24 to 35, 3 of 36 and more, 4 who SLEEP, 5 the number of the ROOM, 6 all;");
        rooms(3, 20);
        children(0, 23, 24, 35, 36, 71, 40, 5);
        for (int c = 0; c < 7; c++) {
            x.in(c, 2);
        }
        x.in(7, 1);
        x.sleeps(0, true);
        x.sleeps(6, true);
        int[][] counts = {{0, 0, 0, 0, 0, 0}, {1, 0, 0, 0, 1, 1}, {2, 2, 3, 2, 2, 7}};
        for (int sign = 1; sign <= 6; sign++) {
            ratio(sign);
            for (int room = 0; room < 3; room++) {
                due(counts[room][sign - 1], x.now(room, 2));
            }
        }

        term(2, "(AGES in month THE MONTH, 0 at first);");
        rooms(1, 20);
        children(23, 35);
        x.in(0, 0);
        x.in(1, 0);
        countsAre(1, 1, 0);
        x.month(1);
        countsAre(0, 1, 1);
        x.month(12);
        countsAre(0, 1, 1);
        x.month(13);
        countsAre(0, 0, 2);
        x.month(60);
        countsAre(0, 0, 2);
        x.month(0);
        countsAre(1, 1, 0);

        term(2, "10 to 49: 0 to 39;");
        rooms(1, 20);
        for (int sign = 10; sign <= 49; sign++) {
            ratio(sign);
            due(sign - 10, x.now(0, 2));
        }
    }

    private static void countsAre(int... counts) {
        for (int sign = 1; sign <= counts.length; sign++) {
            ratio(sign);
            due(counts[sign - 1], x.now(0, 2));
        }
    }

    private static void ratioJoins() {
        term(2, "50 the last but one and the last: sum, 51 less, 52 product,");
        comesTo(9, 17, 12, 50);
        comesTo(5, 17, 12, 51);
        comesTo(0, 12, 17, 51);
        comesTo(14, 17, 12, 52);
        comesTo(0, 17, 10, 52);
        comesTo(78, 49, 49, 50);
        comesTo(1521, 49, 49, 52);
        comesTo(8, 20, 12, 10, 51, 51);
        comesTo(6, 10, 12, 51, 10, 13, 51, 52);
        comesTo(4, 20, 14, 12, 50, 51);
        comesTo(8, 20, 14, 51, 12, 50);

        term(2, "53 quotient upwards (the least whole number not below it; by 0 or below: 0),");
        comesTo(3, 19, 13, 53);
        comesTo(4, 20, 13, 53);
        comesTo(1, 11, 49, 53);
        comesTo(0, 10, 13, 53);
        comesTo(39, 49, 11, 53);
        comesTo(0, 19, 10, 53);
        comesTo(5, 19, 10, 53, 15, 50);
        comesTo(5, 19, 10, 11, 51, 53, 15, 50);
        comesTo(5, 10, 19, 51, 10, 13, 51, 53, 15, 50);
        comesTo(4, 10, 13, 51, 12, 53, 15, 50);
        comesTo(3, 10, 14, 51, 12, 53, 15, 50);
        comesTo(5, 10, 11, 51, 12, 53, 15, 50);

        term(2, "54 the greater.");
        comesTo(9, 19, 13, 54);
        comesTo(9, 13, 19, 54);
        comesTo(9, 19, 19, 54);
        comesTo(0, 10, 19, 51, 10, 54);
        comesTo(17, 10, 13, 51, 10, 19, 51, 54, 30, 50);
    }

    /** As the last alone is told, what is below 0 shows with a sum behind it. */
    private static void comesTo(int want, int... signs) {
        fresh();
        rooms(1, 1);
        ratio(signs);
        due(-1, x.wrong());
        due(want, x.now(0, 2));
    }

    private static void usualNeed() {
        term(2, "Without a RIGHT one (an empty one is none) NEED is as many as 2 times the sum of 1 by 3, 2 by 4 and 3 by 8 (each upwards).");
        needsAre(23, 2, 2, 2, 4, 4, 4, 6, 6, 6, 8);
        needsAre(24, 2, 2, 2, 2, 4, 4, 4, 4, 6, 6);
        needsAre(35, 2, 2, 2, 2, 4, 4, 4, 4, 6, 6);
        needsAre(36, 2, 2, 2, 2, 2, 2, 2, 2, 4, 4);
        needsAre(71, 2, 2, 2, 2, 2, 2, 2, 2, 4, 4);
        fresh();
        rooms(1, 20);
        due(0, x.now(0, 2));
        children(10, 30, 50);
        for (int c = 0; c < 3; c++) {
            x.in(c, 0);
            due(2 * c + 2, x.now(0, 2));
        }
        ratio(12);
        due(2, x.now(0, 2));
        ratio(12, 12);
        due(6, x.now(0, 2));
        ratio(12);
        ratio();
        due(6, x.now(0, 2));
        ratio(50);
        due(6, x.now(0, 2));
    }

    private static void needsAre(int age, int... needs) {
        fresh();
        rooms(1, 20);
        for (int c = 0; c < needs.length; c++) {
            children(age);
            x.in(c, 0);
            due(needs[c], x.now(0, 2));
        }
    }

    private static void movesAll() {
        term(2, "MOVES: a ROOM for each HAND that is not ILL (one that is in none now may stay in none), so that all ROOMS have ENOUGH,");
        movesAre(0);
        hands(0, 1);
        movesAre(0, -1, -1);
        rooms(2, 5);
        movesAre(0, -1, -1);
        x.place(0, 1);
        movesAre(0, 1, -1);
        children(10, 10);
        x.in(0, 1);
        movesAre(1, 1, 1);
        x.in(1, 0);
        movesAre(NONE, NONE, NONE);
        hands(2);
        movesAre(2, 1, 0, 1);
        x.ill(1);
        movesAre(NONE, NONE, NONE, NONE);
        x.fetches(1, 0, true);
        x.over(1, 0);
        movesAre(1, 1, NONE, 1);
        ratio(12);
        movesAre(2, 0, NONE, 1);
        ratio(13);
        movesAre(NONE, NONE, NONE, NONE);

        term(2, "with the fewest HANDS elsewhere than now;");
        rooms(3, 5);
        hands(1, 1, 1, 1);
        children(10, 10, 10);
        for (int c = 0; c < 3; c++) {
            x.in(c, c);
        }
        movesAre(3, -1, 0, 1, 2);
        x.place(3, 0);
        movesAre(2, -1, 1, 2, 0);
        x.place(2, 0);
        movesAre(2, -1, 1, 0, 2);
        x.place(1, 0);
        movesAre(2, -1, 0, 1, 2);
        x.place(0, 2);
        movesAre(1, 2, 0, 0, 1);
        x.place(1, 1);
        movesAre(0, 2, 1, 0, 0);
    }

    private static void movesOrder() {
        term(2, "of several the first: HAND by HAND, none ahead of ROOMS, ROOMS by numbers.");
        rooms(2, 5);
        hands(1, 1, 1);
        children(10);
        x.in(0, 1);
        movesAre(1, -1, -1, 1);
        x.place(0, 0);
        movesAre(1, 0, -1, 1);
        x.place(1, 0);
        x.place(2, 0);
        movesAre(1, 0, 0, 1);
        children(10);
        x.in(1, 0);
        movesAre(1, 0, 0, 1);
        x.place(0, 1);
        x.place(1, 1);
        x.place(2, 1);
        movesAre(1, 0, 1, 1);

        fresh();
        rooms(5, 5);
        hands(0, 0, 0, 0, 0, 0, 0);
        ratio(12);
        movesAre(5, -1, -1, 0, 1, 2, 3, 4);
        for (int h = 0; h < 7; h++) {
            x.place(h, 0);
        }
        movesAre(4, 0, 0, 0, 1, 2, 3, 4);
        for (int h = 0; h < 7; h++) {
            x.place(h, 4);
        }
        movesAre(4, 0, 1, 2, 3, 4, 4, 4);
    }

    private static void movesAre(int count, int... rooms) {
        due(count, x.moves());
        for (int h = 0; h < rooms.length; h++) {
            due(rooms[h], x.moved(h));
        }
    }

    private static void rolls() {
        term(3, "ROLL: each coming in and going out of a CHILD is led with its SLOT (the latest 40);");
        childrenIn(1);
        due(1, x.all(5));
        x.slot(1);
        for (int led = 2; led <= 40; led++) {
            due(1, led % 2 == 0 ? x.over(0, 0) : x.in(0, 0));
            due(led, x.all(5));
        }
        due(1, x.roll(0, 0));
        x.in(0, 0);
        due(40, x.all(5));
        due(0, x.roll(0, 0));
        due(1, x.roll(1, 0));

        term(3, "as of a SLOT a CHILD is IN by the latest of what is led of it in that SLOT or ahead (not, without any).");
        children(10, 10);
        rooms(1, 5);
        x.fetches(0, 0, true);
        x.slot(5);
        x.in(0, 0);
        x.slot(7);
        x.over(0, 0);
        x.slot(9);
        x.in(0, 0);
        x.over(0, 0);
        x.in(0, 0);
        int[] was = {0, 0, 4, 0, 5, 1, 6, 1, 7, 0, 8, 0, 9, 1, 10, 1, 59, 1};
        for (int i = 0; i < was.length; i += 2) {
            due(was[i + 1], x.roll(was[i], 0));
            due(was[i + 1], x.roll(was[i], -1));
            due(0, x.roll(was[i], 1));
        }

        term(3, "Who FETCHES: PERSONS 0 to 15 that are named for a CHILD (none at first).");
        childrenIn(0);
        children(10, 10);
        x.in(0, 0);
        due(0, x.childIs(0, 8));
        for (int person = 0; person < 16; person++) {
            due(BARRED, x.over(0, person));
        }
        due(BEYOND, x.over(0, 16));
        due(1, x.fetches(0, 15, true));
        due(0, x.childIs(1, 8));
        due(BARRED, x.over(0, 14));
        due(1, x.over(0, 15));
    }

    private static void missedStretches() {
        term(3, "LOOKS: at a CHILD that SLEEPS;");
        childrenIn(2);
        due(NONE, x.look(0));
        x.sleeps(0, true);
        due(1, x.look(0));
        due(NONE, x.look(1));
        x.sleeps(0, false);
        due(NONE, x.look(0));

        term(3, "MISSED is a stretch of more than 2 SLOTS from falling asleep, or a LOOK, to the next LOOK, to waking (going out), or to THE SLOT: told by its first SLOT;");
        due(0, missedBetween(2, 0, 0));
        due(1, missedBetween(3, 0, 0));
        due(0, missedBetween(2, 1, 0));
        due(1, missedBetween(3, 1, 0));
        for (int ends = 1; ends <= 3; ends++) {
            due(0, missedBetween(2, 0, ends));
            due(1, missedBetween(3, 0, ends));
            due(0, missedBetween(2, 1, ends));
            due(1, missedBetween(3, 1, ends));
        }
        fresh();
        childrenIn(1);
        x.slot(4);
        x.sleeps(0, true);
        x.slot(6);
        x.look(0);
        due(NONE, x.missed(0, true));
        x.slot(9);
        due(6, x.missed(0, true));
        x.look(0);
        x.slot(12);
        x.sleeps(0, false);
        x.slot(20);
        x.sleeps(0, true);
        x.slot(59);
        due(3, x.missed(0, false));
        due(6, x.missed(0, true));
    }

    /** Missed ones of a stretch from falling asleep (or a look) to nothing, a look, waking, going out. */
    private static int missedBetween(int slots, int from, int ends) {
        fresh();
        childrenIn(2);
        x.slot(10);
        x.sleeps(0, true);
        if (from == 1) {
            x.slot(12);
            x.look(0);
        }
        int begin = x.all(4);
        x.slot(begin + slots);
        due(1, ends == 0 ? 1 : ends == 1 ? Math.min(1, x.look(0)) : ends == 2 ? x.sleeps(0, false) : x.over(0, 0));
        if (ends > 1) {
            x.slot(59);
        }
        int missed = x.missed(0, false);
        due(missed == 0 ? NONE : begin, x.missed(0, true));
        due(0, x.missed(1, false));
        return missed;
    }

    private static void fortyOfSleep() {
        term(3, "the latest 40 of what was led of SLEEP (falling asleep, LOOKS, waking) count");
        childrenIn(2);
        x.sleeps(0, true);
        x.slot(3);
        x.sleeps(0, false);
        x.sleeps(1, true);
        for (int led = 4; led <= 40; led++) {
            x.look(1);
            due(led, x.all(6));
        }
        due(1, x.missed(0, false));
        x.look(1);
        due(40, x.all(6));
        due(0, x.missed(0, false));
        due(NONE, x.missed(0, true));

        term(3, "(a LOOK begins one, too, if what was ahead is led no more).");
        childrenIn(2);
        x.sleeps(0, true);
        x.slot(3);
        x.look(0);
        x.slot(6);
        x.sleeps(1, true);
        for (int led = 4; led <= 40; led++) {
            x.look(1);
        }
        due(2, x.missed(0, false));
        due(0, x.missed(0, true));
        x.look(1);
        due(1, x.missed(0, false));
        due(3, x.missed(0, true));
        x.look(1);
        due(0, x.missed(0, false));
        due(1, x.childIs(0, 6));
    }

    private static void shifts() {
        term(4, "SHIFTS: NEEDED for each SLOT so many hands (0 at first).");
        due(0, x.shifts(-1));
        write(0, 8);
        due(-1, x.proves(0));
        for (int slot = 0; slot < 60; slot += 59) {
            x.needed(slot, slot, 1);
            due(slot, x.proves(0));
            due(1, x.shifts(-1));
            x.needed(slot, slot, 0);
        }

        term(4, "A SHIFT is of LONG SLOTS (1 to 60) one behind the other, within the DAY.");
        x.needed(0, 59, 1);
        int[] fewest = {1, 60, 2, 30, 7, 9, 29, 3, 30, 2, 59, 2, 60, 1};
        for (int i = 0; i < fewest.length; i += 2) {
            x.longer(fewest[i]);
            due(fewest[i + 1], x.shifts(-1));
            due(60 - fewest[i], x.shifts(fewest[i + 1] - 1));
        }
        write(0, 8, 0);
        due(-1, x.proves(0));
        write(0, 8, 1);
        due(KIND, x.proves(0));

        term(4, "FEWEST: how many SHIFTS there must be, so that in each SLOT as many as are NEEDED are there;");
        x.longer(10);
        x.needed(0, 0, 8);
        due(8, x.shifts(-1));
        x.needed(9, 9, 8);
        due(8, x.shifts(-1));
        x.needed(10, 10, 1);
        due(9, x.shifts(-1));
        x.needed(20, 20, 1);
        due(10, x.shifts(-1));
        x.needed(19, 20, 3);
        due(12, x.shifts(-1));

        term(4, "THE SHIFTS: the one that begins latest of those that are there in the first SLOT that lacks some (as late as it can within the DAY), again and again.");
        x.longer(10);
        x.needed(3, 3, 2);
        x.needed(12, 13, 1);
        x.needed(49, 50, 1);
        x.needed(51, 51, 2);
        x.needed(59, 59, 1);
        int[] begins = {3, 3, 13, 49, 50};
        due(begins.length, x.shifts(-1));
        for (int i = 0; i < begins.length; i++) {
            due(begins[i], x.shifts(i));
        }
    }

    private static void placesAhead() {
        term(5, "PLACES AHEAD: a CHILD that is ADMITTED is there in the months from its FIRST to its LAST, on the days of its SESSIONS, in its ROOM of the month (in none it needs no place).");
        x.room(20, 1);
        x.room(3071, 1);
        x.child(10, -1, 9, 540);
        x.child(10, -1, 9, 540);
        due(0, x.places(0, 0, 10));
        due(5, x.admit(0));
        int[] there = {5, 0, 9, 0, 10, 1, 30, 1, 31, 0, 39, 0, 40, 0};
        for (int i = 0; i < there.length; i += 2) {
            due(there[i + 1], x.places(0, 0, there[i]));
            due(there[i + 1], x.places(0, 3, there[i]));
            due(0, x.places(0, 1, there[i]));
            due(0, x.places(0, 4, there[i]));
        }
        due(0, x.places(1, 0, 39));
        due(1, x.places(1, 0, 40));
        due(0, x.places(1, 0, 41));
        due(NONE, x.earliest(1));
        x.child(10, -1, 9, 539);
        due(31, x.earliest(2));

        term(5, "A ROOM is FULL on a day of a month if it has as many as PLACES.");
        x.room(71, 2);
        for (int c = 0; c < 3; c++) {
            x.child(0, -1, 4, 1212);
        }
        due(12, x.admit(0));
        due(12, x.earliest(2));
        due(12, x.admit(1));
        due(2, x.places(0, 2, 12));
        due(NONE, x.earliest(2));

        term(5, "CAN a child be ADMITTED from a month m on: m is its FIRST then, not above LAST;");
        x.room(71, 1);
        x.child(0, -1, 31, 59);
        x.child(0, -1, 31, 60);
        x.child(0, -1, 31, 59);
        x.child(0, -1, 31, 6060);
        x.admit(0);
        due(60, x.earliest(1));
        due(NONE, x.earliest(2));
        due(60, x.admit(1));
        due(60, x.childIs(1, 3));
        due(1, x.places(0, 0, 60));
        due(NONE, x.earliest(3));

        term(5, "in each month from then to LAST, on each of its days, its ROOM (if it has one) has not more than PLACES with it.");
        x.room(71, 1);
        x.child(0, -1, 2, 2020);
        x.child(0, -1, 3, 60);
        x.child(0, -1, 29, 60);
        x.child(0, -1, 2, 2160);
        x.child(0, -1, 2, 19);
        x.child(0, -1, 2, 20);
        x.child(21, -1, 2, 60);
        x.admit(0);
        int[] earliest = {0, 21, 0, 21, 0, NONE, 0};
        for (int c = 1; c < 7; c++) {
            due(earliest[c], x.earliest(c));
        }
    }

    private static void list() {
        term(5, "THE LIST: children that wait, in an order (as they were put there);");
        children(1, 2, 3, 4);
        x.waits(2);
        x.waits(0);
        x.waits(3);
        listIs(2, 0, 3);
        x.admit(0);
        listIs(2, 3);
        x.waits(1);
        listIs(2, 3, 1);

        term(5, "SIBLINGS of ADMITTED ones are ahead of all others, else by the order.");
        for (int sibling : row(-1, -1, 0, 1, 0, -1)) {
            x.child(0, sibling, 31, 60);
        }
        for (int c : row(5, 4, 3, 2)) {
            x.waits(c);
        }
        listIs(5, 4, 3, 2);
        x.admit(1);
        listIs(3, 5, 4, 2);
        x.admit(0);
        listIs(4, 3, 2, 5);
        x.undo();
        listIs(3, 5, 4, 2);
        fresh();
        for (int sibling : row(-1, 0, -1, 0)) {
            x.child(0, sibling, 31, 60);
        }
        x.waits(1);
        x.waits(2);
        x.waits(3);
        x.admit(0);
        listIs(1, 3, 2);
    }

    private static void listIs(int... children) {
        for (int i = 0; i < children.length; i++) {
            due(children[i], x.list(i));
        }
        due(NONE, x.list(children.length));
    }

    private static void bills() {
        term(6, "BILL of a CHILD for a week: its hours (SESSIONS times 10, less hours of days it was away), less FUNDED ones (0 to 30, if it is term; if not none), 0 at least, times RATE (1 to 99; 10 at first),");
        x.child(0, -1, 31, 60);
        x.child(0, -1, 5, 60);
        x.child(0, -1, 0, 60);
        due(500, x.bill(0, 0, 0, true));
        due(200, x.bill(0, 0, 30, true));
        due(500, x.bill(0, 0, 30, false));
        due(0, x.bill(0, 31, 0, false));
        due(100, x.bill(1, 1, 0, true));
        due(200, x.bill(1, 26, 0, true));
        due(10, x.bill(1, 0, 19, true));
        due(0, x.bill(1, 0, 20, true));
        due(0, x.bill(1, 0, 21, true));
        due(0, x.bill(2, 0, 30, true));
        x.rate(1);
        due(50, x.bill(0, 0, 0, true));
        x.rate(99);
        due(4950, x.bill(0, 0, 0, true));
        due(0, x.bill(1, 0, 30, true));

        term(6, "and LATE fees: 5 times what the SLOT of its latest going out that is led is above 54.");
        int[] fees = {53, 0, 54, 0, 55, 5, 59, 25};
        for (int i = 0; i < fees.length; i += 2) {
            fresh();
            childrenIn(2);
            x.slot(fees[i]);
            due(0, x.bill(0, 31, 0, true));
            x.over(0, 0);
            due(fees[i + 1], x.bill(0, 31, 0, true));
            due(fees[i + 1] + 500, x.bill(0, 0, 0, true));
            due(0, x.bill(1, 31, 0, true));
        }
        latestGoingOut();
    }

    private static void latestGoingOut() {
        fresh();
        childrenIn(2);
        x.slot(56);
        x.over(0, 0);
        x.slot(58);
        x.in(0, 0);
        due(10, x.bill(0, 31, 0, true));
        x.over(0, 0);
        due(20, x.bill(0, 31, 0, true));
        for (int led = 1; led < 40; led++) {
            due(1, led % 2 == 1 ? x.over(1, 0) : x.in(1, 0));
        }
        due(20, x.bill(0, 31, 0, true));
        x.in(1, 0);
        due(0, x.bill(0, 31, 0, true));
        x.day();
        due(0, x.bill(1, 31, 0, true));
    }

    private static void sheets() {
        term(7, "SHEETS 0 to 3 are rows of up to 60 numbers of 8, 16 or 32 bits, or MISSING (all, at first).");
        for (int s = 0; s < 4; s++) {
            due(MISSING, x.put(s, 0, 0));
            due(60, x.sheet(s, s == 0 ? 8 : s == 1 ? 16 : 32, 60));
            due(0, x.put(s, 59, 0));
            due(BEYOND, x.put(s, 60, 0));
            due(BEYOND, x.sheet(s, 8, 61));
            due(0, x.put(s, 59, 0));
        }
        due(BEYOND, x.put(4, 0, 0));
        due(BEYOND, x.put(-1, 0, 0));
        due(KIND, x.copy(0, 0, 1, 0, 1));
        due(KIND, x.copy(1, 0, 2, 0, 1));
        due(60, x.copy(2, 0, 3, 0, 60));
    }
}
