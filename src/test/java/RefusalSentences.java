import java.util.function.Consumer;
import java.util.function.ToIntFunction;

/** Every act with every finding, by itself: nothing changes but the count of findings. */
final class RefusalSentences extends Reading {
    static void read() {
        term(0, "an act that answers a finding changes nothing.");
        ofRooms();
        ofHands();
        ofChildren();
        ofMonthsAndSlots();
        ofIn();
        ofTo();
        ofOver();
        ofMoves();
        ofSleep();
        ofShifts();
        ofTheList();
        ofPlacesAndBills();
        ofTexts();
        ofSheets();
        ofCopies();
        ofTheWhole();
        whatIsOnlyAsked();
        calls512();
    }

    /** A few of everything; less than 16 acts are kept behind the first ones. */
    private static void nursery(SmallRooms y) {
        y.room(23, 1);
        y.room(2471, 2);
        y.room(1030, 5);
        y.hand(1);
        y.hand(2);
        y.hand(3);
        y.child(-10, -1, 31, 60);
        y.child(-12, 0, 31, 60);
        y.child(-40, -1, 3, 520);
        y.child(20, -1, 31, 60);
        y.place(0, 0);
        y.ill(2);
        y.fetches(0, 3, true);
        y.slot(5);
        y.in(0, 0);
        y.sleeps(0, true);
        y.slot(9);
        y.in(2, 1);
        y.waits(1);
        y.admit(2);
        y.sheet(0, 8, 3);
        y.put(0, 0, 6);
        y.put(0, 1, 12);
        y.put(0, 2, 53);
        y.sheet(1, 16, 2);
        y.sheet(2, 32, 15);
        y.put(2, 0, 9);
    }

    private static void refused(int finding, ToIntFunction<SmallRooms> call) {
        refusedBehind(y -> { }, finding, call);
    }

    private static void refusedBehind(Consumer<SmallRooms> more, int finding, ToIntFunction<SmallRooms> call) {
        SmallRooms still = new SmallRooms();
        nursery(still);
        more.accept(still);
        fresh();
        nursery(x);
        more.accept(x);
        int told = still.all(7);
        due(told, x.all(7));
        due(finding, call.applyAsInt(x));
        due(finding < -99999 ? told + 1 : told, x.all(7));
        same("changed nothing", Look.at(still), Look.at(x));
    }

    private static void ofRooms() {
        for (int ages : row(-1, 72, 7172, 7200, LOW, HIGH)) {
            refused(BEYOND, y -> y.room(ages, 1));
        }
        refused(BEYOND, y -> y.room(71, 0));
        refused(BEYOND, y -> y.room(71, 21));
        refused(SIZE, y -> y.room(100, 1));
        refusedBehind(y -> {
            y.room(71, 1);
            y.room(71, 1);
        }, FULL, y -> y.room(71, 1));
    }

    private static void ofHands() {
        refused(BEYOND, y -> y.hand(-1));
        refused(BEYOND, y -> y.hand(4));
        refusedBehind(y -> {
            for (int i = 3; i < 7; i++) {
                y.hand(0);
            }
        }, FULL, y -> y.hand(0));
        for (int none : row(3, -1, LOW, HIGH)) {
            refused(BEYOND, y -> y.as(none, 0));
            refused(BEYOND, y -> y.place(none, 0));
            refused(BEYOND, y -> y.ill(none));
            refused(BEYOND, y -> y.moved(none));
        }
        refused(BEYOND, y -> y.as(0, 4));
        refused(BEYOND, y -> y.as(0, -1));
        refused(KIND, y -> y.as(0, 2));
        refused(BEYOND, y -> y.place(0, 3));
        refused(BEYOND, y -> y.place(0, -2));
        refused(NONE, y -> y.place(2, 0));
        refused(NONE, y -> y.place(2, -1));
        refused(TAKEN, y -> y.ill(2));
    }

    private static void ofChildren() {
        refused(BEYOND, y -> y.child(-72, -1, 0, 0));
        refused(BEYOND, y -> y.child(61, -1, 0, 0));
        refused(BEYOND, y -> y.child(0, -2, 0, 0));
        refused(BEYOND, y -> y.child(0, 4, 0, 0));
        refused(BEYOND, y -> y.child(0, -1, -1, 0));
        refused(BEYOND, y -> y.child(0, -1, 32, 0));
        refused(BEYOND, y -> y.child(0, -1, 0, -1));
        refused(BEYOND, y -> y.child(0, -1, 0, 61));
        refused(BEYOND, y -> y.child(0, -1, 0, 6100));
        refused(SIZE, y -> y.child(0, -1, 0, 100));
        refusedBehind(y -> {
            for (int i = 4; i < 10; i++) {
                y.child(0, -1, 0, 0);
            }
        }, FULL, y -> y.child(0, -1, 0, 0));
        for (int none : row(4, -1, LOW, HIGH)) {
            refused(BEYOND, y -> y.childIs(none, 0));
            refused(BEYOND, y -> y.roomOf(none, 0));
            refused(BEYOND, y -> y.in(none, 0));
            refused(BEYOND, y -> y.to(none, 0));
            refused(BEYOND, y -> y.over(none, 0));
            refused(BEYOND, y -> y.fetches(none, 0, true));
            refused(BEYOND, y -> y.sleeps(none, true));
            refused(BEYOND, y -> y.look(none));
            refused(BEYOND, y -> y.missed(none, false));
            refused(BEYOND, y -> y.waits(none));
            refused(BEYOND, y -> y.earliest(none));
            refused(BEYOND, y -> y.admit(none));
            refused(BEYOND, y -> y.bill(none, 0, 0, true));
        }
        refused(BEYOND, y -> y.childIs(0, 9));
        refused(BEYOND, y -> y.childIs(0, -1));
        refused(BEYOND, y -> y.fetches(0, 16, true));
        refused(BEYOND, y -> y.fetches(0, -1, false));
    }

    private static void ofMonthsAndSlots() {
        refused(BEYOND, y -> y.roomOf(0, -1));
        refused(BEYOND, y -> y.roomOf(0, 61));
        refused(NONE, y -> y.roomOf(3, 0));
        refused(BEYOND, y -> y.month(-1));
        refused(BEYOND, y -> y.month(61));
        refused(BEYOND, y -> y.slot(-1));
        refused(BEYOND, y -> y.slot(60));
        refused(SIZE, y -> y.slot(8));
        refused(SIZE, y -> y.slot(0));
    }

    private static void ofIn() {
        refused(BEYOND, y -> y.in(1, 3));
        refused(BEYOND, y -> y.in(1, -1));
        refused(TAKEN, y -> y.in(0, 0));
        refused(TAKEN, y -> y.in(0, 2));
        refused(KIND, y -> y.in(1, 1));
        refused(KIND, y -> y.in(3, 2));
        refused(FULL, y -> y.in(1, 0));
    }

    private static void ofTo() {
        refused(BEYOND, y -> y.to(0, 3));
        refused(BEYOND, y -> y.to(0, -1));
        refused(NONE, y -> y.to(1, 0));
        refused(TAKEN, y -> y.to(0, 0));
        refused(KIND, y -> y.to(0, 1));
        refusedBehind(y -> y.in(1, 2), FULL, y -> y.to(1, 0));
    }

    private static void ofOver() {
        refused(BEYOND, y -> y.over(0, 16));
        refused(BEYOND, y -> y.over(0, -1));
        refused(NONE, y -> y.over(1, 3));
        refused(BARRED, y -> y.over(0, 4));
        refused(BARRED, y -> y.over(2, 3));
    }

    private static void ofMoves() {
        for (int none : row(3, -1, LOW, HIGH)) {
            refused(BEYOND, y -> y.now(none, 0));
        }
        refused(BEYOND, y -> y.now(0, 5));
        refused(BEYOND, y -> y.now(0, -1));
        refused(NONE, y -> y.moved(2));
        Consumer<SmallRooms> leaderIll = y -> y.ill(1);
        refusedBehind(leaderIll, NONE, y -> y.moves());
        refusedBehind(leaderIll, NONE, y -> y.moved(0));
        refusedBehind(leaderIll, NONE, y -> y.move());
    }

    private static void ofSleep() {
        refused(BEYOND, y -> y.roll(60, -1));
        refused(BEYOND, y -> y.roll(-1, 0));
        refused(BEYOND, y -> y.roll(0, 4));
        refused(BEYOND, y -> y.roll(0, -2));
        refused(NONE, y -> y.sleeps(1, true));
        refused(NONE, y -> y.sleeps(1, false));
        refused(NONE, y -> y.look(1));
        refused(NONE, y -> y.look(2));
        refused(NONE, y -> y.missed(2, true));
    }

    private static void ofShifts() {
        refused(BEYOND, y -> y.needed(-1, 0, 1));
        refused(BEYOND, y -> y.needed(0, 60, 1));
        refused(BEYOND, y -> y.needed(1, 0, 1));
        refused(BEYOND, y -> y.needed(0, 9, -1));
        refused(BEYOND, y -> y.needed(0, 9, 9));
        refused(BEYOND, y -> y.longer(0));
        refused(BEYOND, y -> y.longer(61));
        refused(BEYOND, y -> y.shifts(-2));
        refused(NONE, y -> y.shifts(0));
        refused(BEYOND, y -> y.proves(4));
        refused(BEYOND, y -> y.proves(-1));
        refused(MISSING, y -> y.proves(3));
        refused(KIND, y -> y.proves(2));
        refused(KIND, y -> y.proves(0));
    }

    private static void ofTheList() {
        refused(TAKEN, y -> y.waits(1));
        refused(TAKEN, y -> y.waits(2));
        refused(BEYOND, y -> y.list(-1));
        refused(NONE, y -> y.list(1));
        refused(TAKEN, y -> y.earliest(2));
        refused(TAKEN, y -> y.admit(2));
        Consumer<SmallRooms> taken = y -> {
            y.admit(0);
            y.child(-10, -1, 1, 0);
            y.waits(4);
        };
        refusedBehind(taken, NONE, y -> y.earliest(4));
        refusedBehind(taken, NONE, y -> y.admit(4));
    }

    private static void ofPlacesAndBills() {
        refused(BEYOND, y -> y.places(3, 0, 0));
        refused(BEYOND, y -> y.places(-1, 0, 0));
        refused(BEYOND, y -> y.places(0, 5, 0));
        refused(BEYOND, y -> y.places(0, -1, 0));
        refused(BEYOND, y -> y.places(0, 0, 61));
        refused(BEYOND, y -> y.places(0, 0, -1));
        refused(BEYOND, y -> y.rate(0));
        refused(BEYOND, y -> y.rate(100));
        refused(BEYOND, y -> y.bill(0, -1, 0, true));
        refused(BEYOND, y -> y.bill(0, 32, 0, true));
        refused(BEYOND, y -> y.bill(0, 0, -1, true));
        refused(BEYOND, y -> y.bill(0, 0, 31, false));
    }

    private static void ofTexts() {
        Consumer<SmallRooms> told = y -> y.text(0);
        refusedBehind(told, BEYOND, y -> y.text(-1));
        refusedBehind(told, BEYOND, y -> y.text(4));
        refusedBehind(told, MISSING, y -> y.text(3));
        refusedBehind(told, SIZE, y -> y.text(2));
        refusedBehind(told, BEYOND, y -> y.text(1));
        refusedBehind(y -> {
            y.text(0);
            y.put(1, 0, 12);
        }, BEYOND, y -> y.text(1));
    }

    private static void ofSheets() {
        refused(BEYOND, y -> y.sheet(-1, 8, 1));
        refused(BEYOND, y -> y.sheet(4, 8, 1));
        refused(BEYOND, y -> y.sheet(0, 7, 1));
        refused(SIZE, y -> y.sheet(0, 8, -1));
        refused(SIZE, y -> y.sheet(0, 0, -1));
        refused(BEYOND, y -> y.sheet(0, 8, 61));
        refused(BEYOND, y -> y.sheet(0, 0, 61));
        refused(BEYOND, y -> y.put(-1, 0, 0));
        refused(BEYOND, y -> y.put(4, 0, 0));
        refused(MISSING, y -> y.put(3, 0, 0));
        refused(BEYOND, y -> y.put(0, 3, 0));
        refused(BEYOND, y -> y.put(0, -1, 0));
    }

    private static void ofCopies() {
        Consumer<SmallRooms> another = y -> {
            y.sheet(1, 8, 2);
            y.put(1, 0, 11);
            y.put(1, 1, 12);
        };
        refused(BEYOND, y -> y.copy(4, 0, 0, 0, 1));
        refused(BEYOND, y -> y.copy(0, 0, -1, 0, 1));
        refused(MISSING, y -> y.copy(3, 0, 0, 0, 1));
        refused(MISSING, y -> y.copy(0, 0, 3, 0, 1));
        refused(KIND, y -> y.copy(1, 0, 0, 0, 1));
        refusedBehind(another, BEYOND, y -> y.copy(0, 0, 1, 0, 3));
        refusedBehind(another, BEYOND, y -> y.copy(0, 0, 1, 1, 2));
        refusedBehind(another, BEYOND, y -> y.copy(1, 1, 0, 0, 2));
        refusedBehind(another, BEYOND, y -> y.copy(1, -1, 0, 0, 1));
        refusedBehind(another, BEYOND, y -> y.copy(1, 0, 0, -1, 1));
        refusedBehind(another, BEYOND, y -> y.copy(1, 0, 0, 0, -1));
    }

    private static void ofTheWhole() {
        refused(BEYOND, y -> y.all(8));
        refused(BEYOND, y -> y.all(-1));
        refusedBehind(y -> {
            for (int i = 0; i < 16; i++) {
                y.undo();
            }
        }, NONE, y -> y.undo());
    }

    /** Calls that ask alone change nothing either, with and without a finding. */
    private static void whatIsOnlyAsked() {
        refused(1, y -> y.as(1, 0));
        refused(31, y -> y.childIs(1, 2));
        refused(0, y -> y.roomOf(1, 5));
        refused(1, y -> y.now(0, 1));
        refused(2, y -> y.lacking());
        refused(1, y -> y.moves());
        refused(1, y -> y.moved(1));
        refused(1, y -> y.roll(5, -1));
        refused(5, y -> y.missed(0, true));
        refused(0, y -> y.shifts(-1));
        refusedBehind(y -> y.put(2, 0, 0), 60, y -> y.proves(2));
        refused(1, y -> y.list(0));
        refused(0, y -> y.earliest(1));
        refused(1, y -> y.places(1, 0, 5));
        refused(500, y -> y.bill(0, 0, 0, true));
        refused(0, y -> y.wrong());
        refused(9, y -> y.all(4));
    }

    /** The document lets an object be used for 512 calls: the last of them still answers. */
    private static void calls512() {
        fresh();
        for (int call = 1; call < 512; call++) {
            due(BEYOND, x.all(-call));
        }
        due(511, x.all(7));
        fresh();
        for (int call = 1; call < 512; call++) {
            due((call - 1) % 61, x.month(call % 61));
        }
        due(15, x.undo());
    }
}
