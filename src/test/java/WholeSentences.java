import java.util.function.Consumer;
import java.util.function.ToIntFunction;

/** The sentences of promises 37 to 43: the text, sheets, the whole. */
final class WholeSentences extends Reading {
    static void read() {
        text();
        textRefused();
        wrong();
        sheet();
        sheetRefused();
        put();
        copy();
        copyRefused();
        undoEach();
        undoWhatWasWrittenOver();
        undoNothing();
        undoSixteen();
        all();
    }

    private static void text() {
        promise(37, "The text becomes the numbers of a sheet: how many.");
        rooms(1, 1);
        write(0, 8, 15);
        write(1, 16, 15, 16, 50);
        write(2, 32, 15, 15, 50, 15, 50, 15, 50, 15, 50, 15, 50, 15, 50, 49);
        write(3, 8);
        due(1, x.text(0));
        due(5, x.now(0, 2));
        due(3, x.text(1));
        due(11, x.now(0, 2));
        due(14, x.text(2));
        due(14, x.wrong());
        due(1, x.text(0));
        due(-1, x.wrong());
        x.put(0, 0, 16);
        due(5, x.now(0, 2));
        x.sheet(0, 0, 0);
        due(5, x.now(0, 2));
        due(0, x.text(3));
        due(0, x.wrong());
        due(0, x.now(0, 2));
    }

    private static void textRefused() {
        promise(37, "BEYOND: no such sheet.");
        for (int s : row(-1, 4, LOW, HIGH)) {
            due(BEYOND, x.text(s));
        }

        promise(37, "MISSING.");
        for (int s = 0; s < 4; s++) {
            due(MISSING, x.text(s));
            x.sheet(s, 8, 0);
            due(0, x.text(s));
            x.sheet(s, 0, 0);
            due(MISSING, x.text(s));
        }

        promise(37, "SIZE: more than 14.");
        write(0, 8, 10, 10, 10, 10, 10, 10, 10, 10, 10, 10, 10, 10, 10, 10);
        due(14, x.text(0));
        write(0, 8, 10, 10, 10, 10, 10, 10, 10, 10, 10, 10, 10, 10, 10, 10, 10);
        due(SIZE, x.text(0));
        x.sheet(0, 32, 60);
        due(SIZE, x.text(0));
        due(5, x.wrong());

        promise(37, "BEYOND: one is no SIGN.");
        rooms(1, 1);
        ratio(17);
        for (int v : row(0, 7, 8, 9, 55, 60, 127, -1, -2, 255, 32767, 65535, HIGH, LOW)) {
            write(0, 32, v);
            due(BEYOND, x.text(0));
            write(0, 32, 11, 12, v);
            due(BEYOND, x.text(0));
        }
        due(7, x.now(0, 2));
        for (int v : row(1, 6, 10, 49, 50, 54)) {
            write(0, 32, v);
            due(1, x.text(0));
        }
    }

    private static void wrongIs(int want, int... signs) {
        ratio(signs);
        due(want, x.wrong());
    }

    private static void wrong() {
        promise(38, "Whether the text is RIGHT: -1 (no finding);");
        for (int sign : row(1, 2, 3, 4, 5, 6, 10, 49)) {
            wrongIs(-1, sign);
        }
        for (int sign = 50; sign <= 54; sign++) {
            wrongIs(-1, 1, 10, sign);
        }
        wrongIs(-1, 1, 2, 3, 4, 5, 50, 51, 52, 53);
        wrongIs(-1, 1, 2, 3, 4, 5, 50, 6, 50, 50, 50, 50);
        wrongIs(-1, 1, 2, 50, 2, 50, 2, 50, 2, 50, 2, 50, 2, 50);
        due(0, x.all(7));

        promise(38, "else the place of the first SIGN with which it goes wrong, or how many it has.");
        due(0, x.wrong());
        for (int sign = 50; sign <= 54; sign++) {
            wrongIs(0, sign);
            wrongIs(0, sign, sign, 10);
            wrongIs(1, 10, sign);
            wrongIs(3, 10, 10, sign, sign);
        }
        wrongIs(2, 10, 10);
        wrongIs(5, 10, 10, 10, 10, 10);
        wrongIs(5, 10, 10, 10, 10, 10, 10);
        wrongIs(5, 10, 10, 10, 10, 10, 10, 50, 50, 50, 50, 50);
        wrongIs(7, 10, 10, 10, 10, 10, 50, 10, 10);
        wrongIs(14, 10, 10, 50, 10, 50, 10, 50, 10, 50, 10, 50, 10, 50, 10);
        wrongIs(13, 10, 10, 50, 10, 50, 10, 50, 10, 50, 10, 50, 10, 50, 50);
        wrongIs(0);
        due(0, x.all(7));
    }

    private static void sheet() {
        promise(39, "A sheet has n numbers, all 0, of 8, 16 or 32 bits; bits 0: it is MISSING: n (0).");
        for (int bits = 8; bits <= 32; bits *= 2) {
            due(60, x.sheet(0, bits, 60));
            due(60, x.proves(0));
            due(0, x.put(0, 59, 7));
            due(3, x.sheet(0, bits, 3));
            due(0, x.put(0, 0, 7));
            due(3, x.sheet(0, bits, 3));
            due(60, x.proves(0));
            due(BEYOND, x.put(0, 3, 7));
            due(1, x.sheet(0, bits, 1));
            due(0, x.sheet(0, bits, 0));
            due(0, x.text(0));
            due(0, x.sheet(0, 0, 0));
            due(MISSING, x.text(0));
        }
        x.sheet(0, 8, 5);
        due(0, x.sheet(0, 0, 5));
        due(MISSING, x.put(0, 0, 0));
        zerosAgain();
    }

    /** What stood in a sheet that was longer, or other, doesn't come back. */
    private static void zerosAgain() {
        write(1, 8, 12, 13);
        x.sheet(1, 0, 0);
        x.sheet(1, 8, 2);
        due(BEYOND, x.text(1));
        x.put(1, 0, 12);
        due(BEYOND, x.text(1));
        x.put(1, 1, 13);
        due(2, x.text(1));
        x.sheet(1, 8, 1);
        x.sheet(1, 8, 2);
        x.put(1, 0, 12);
        due(BEYOND, x.text(1));
    }

    private static void sheetRefused() {
        promise(39, "BEYOND: no such sheet, or bits.");
        for (int s : row(-1, 4, LOW, HIGH)) {
            due(BEYOND, x.sheet(s, 8, 1));
            due(BEYOND, x.sheet(s, 0, 0));
        }
        for (int bits : row(-8, -1, 1, 4, 7, 9, 15, 17, 24, 31, 33, 64, LOW, HIGH)) {
            due(BEYOND, x.sheet(0, bits, 1));
        }
        due(MISSING, x.text(0));

        promise(39, "SIZE: n is below 0.");
        x.sheet(0, 8, 1);
        for (int n : row(-1, -60, LOW)) {
            for (int bits : row(0, 8, 16, 32)) {
                due(SIZE, x.sheet(0, bits, n));
            }
        }
        due(0, x.put(0, 0, 1));

        promise(39, "BEYOND: n is above 60.");
        x.sheet(0, 8, 1);
        for (int n : row(61, 100, HIGH)) {
            for (int bits : row(0, 8, 16, 32)) {
                due(BEYOND, x.sheet(0, bits, n));
            }
        }
        due(0, x.put(0, 0, 1));
        due(BEYOND, x.put(0, 1, 1));
    }

    private static void put() {
        promise(40, "Number i of a sheet becomes v (its lowest bits): 0.");
        rooms(1, 1);
        lowestBits(8, 12, 256 + 12, -256 + 12, 65536 + 12, HIGH - 255 + 12, LOW + 12);
        lowestBits(16, 12, 65536 + 12, -65536 + 12, 131072 + 12, HIGH - 65535 + 12, LOW + 12);
        lowestBits(32, 12);
        int[][] not = {{16, 256 + 12}, {16, -256 + 12}, {16, 128 + 12}, {8, 128 + 12}, {16, 32768 + 12},
            {32, 65536 + 12}, {32, 256 + 12}, {32, LOW + 12}, {32, HIGH - 255 + 12}};
        for (int[] each : not) {
            write(0, each[0], each[1]);
            due(BEYOND, x.text(0));
        }
        x.sheet(1, 8, 60);
        due(0, x.put(1, 0, 1));
        due(0, x.put(1, 59, 1));

        promise(40, "BEYOND: no such sheet.");
        for (int s : row(-1, 4, LOW, HIGH)) {
            due(BEYOND, x.put(s, 0, 0));
        }

        promise(40, "MISSING.");
        for (int s = 0; s < 4; s++) {
            due(MISSING, x.put(s, 0, 0));
            x.sheet(s, 8, 1);
            due(0, x.put(s, 0, 0));
            x.sheet(s, 0, 1);
            due(MISSING, x.put(s, 0, 0));
        }

        promise(40, "BEYOND: no such number.");
        x.sheet(0, 8, 0);
        due(BEYOND, x.put(0, 0, 1));
        x.sheet(0, 8, 2);
        for (int i : row(-1, 2, 59, 60, LOW, HIGH)) {
            due(BEYOND, x.put(0, i, 1));
        }
        due(0, x.put(0, 1, 1));
        x.sheet(0, 8, 60);
        due(BEYOND, x.put(0, 60, 1));
    }

    private static void lowestBits(int bits, int... values) {
        for (int v : values) {
            write(0, bits, v);
            due(1, x.text(0));
            due(2, x.now(0, 2));
        }
    }

    /** The numbers of a sheet of 8 bits that tells numbers 10 to 49, one by one. */
    private static void sheetIs(int s, int... numbers) {
        int other = s == 3 ? 2 : 3;
        x.sheet(other, 8, 1);
        for (int i = 0; i < numbers.length; i++) {
            due(1, x.copy(s, i, other, 0, 1));
            due(1, x.text(other));
            due(numbers[i] - 10, x.now(0, 2));
        }
        due(BEYOND, x.copy(s, numbers.length, other, 0, 1));
    }

    private static void copy() {
        promise(41, "n numbers of a sheet from one on come to another one from one on: n.");
        rooms(1, 1);
        write(0, 8, 11, 12, 13, 14, 15);
        write(1, 8, 21, 22, 23);
        due(0, x.copy(0, 0, 1, 0, 0));
        sheetIs(1, 21, 22, 23);
        due(2, x.copy(0, 3, 1, 0, 2));
        sheetIs(1, 14, 15, 23);
        due(3, x.copy(1, 0, 0, 2, 3));
        sheetIs(0, 11, 12, 14, 15, 23);
        write(0, 8, 11, 12, 13, 14, 15);
        due(4, x.copy(0, 0, 0, 1, 4));
        sheetIs(0, 11, 11, 12, 13, 14);
        due(4, x.copy(0, 1, 0, 0, 4));
        sheetIs(0, 11, 12, 13, 14, 14);
        due(5, x.copy(0, 0, 0, 0, 5));
        sheetIs(0, 11, 12, 13, 14, 14);
        x.sheet(1, 8, 60);
        x.sheet(2, 8, 60);
        due(60, x.copy(1, 0, 2, 0, 60));
        due(0, x.copy(1, 60, 2, 60, 0));
        for (int bits = 16; bits <= 32; bits *= 2) {
            write(1, bits, 11, 12);
            write(2, bits, 13);
            due(1, x.copy(1, 1, 2, 0, 1));
            due(1, x.text(2));
            due(2, x.now(0, 2));
        }
    }

    private static void copyRefused() {
        promise(41, "BEYOND: no such sheet (either).");
        x.sheet(0, 8, 1);
        for (int s : row(-1, 4, LOW, HIGH)) {
            due(BEYOND, x.copy(s, 0, 0, 0, 1));
            due(BEYOND, x.copy(0, 0, s, 0, 1));
            due(BEYOND, x.copy(s, 0, s, 0, 0));
        }

        promise(41, "MISSING: one is.");
        x.sheet(1, 8, 1);
        due(MISSING, x.copy(0, 0, 1, 0, 0));
        due(MISSING, x.copy(1, 0, 0, 0, 0));
        due(MISSING, x.copy(2, 0, 3, 0, 0));
        due(0, x.copy(1, 0, 1, 0, 0));

        promise(41, "KIND: they are not of as many bits.");
        x.sheet(0, 8, 1);
        x.sheet(1, 16, 1);
        x.sheet(2, 32, 1);
        for (int s = 0; s < 3; s++) {
            for (int t = 0; t < 3; t++) {
                due(s == t ? 1 : KIND, x.copy(s, 0, t, 0, 1));
            }
        }

        promise(41, "BEYOND: one has not so many, or from, to or n is below 0.");
        x.sheet(0, 8, 5);
        x.sheet(1, 8, 3);
        int[][] beyond = {{0, 0, 4}, {1, 1, 3}, {2, 0, 4}, {3, 0, 3}, {5, 0, 1}, {0, 3, 1}, {-1, 0, 1}, {0, -1, 1},
            {0, 0, -1}, {-1, -1, -1}, {1, 1, -1}, {HIGH, 0, 1}, {0, HIGH, 1}, {0, 0, HIGH}, {1, 1, HIGH},
            {HIGH, HIGH, HIGH}, {LOW, 0, 1}, {0, LOW, 1}, {0, 0, LOW}, {LOW, LOW, HIGH}, {-1, 0, 0}, {0, -1, 0}};
        for (int[] each : beyond) {
            due(BEYOND, x.copy(0, each[0], 1, each[1], each[2]));
        }
        due(3, x.copy(0, 2, 1, 0, 3));
        due(1, x.copy(0, 4, 1, 2, 1));
        due(0, x.copy(0, 5, 1, 3, 0));
        due(3, x.copy(1, 0, 0, 2, 3));
        due(BEYOND, x.copy(1, 0, 0, 3, 3));
    }

    private static void undoEach() {
        promise(42, "The latest act that changed the nursery (room, hand, child, month, slot, day, in, to, over, fetches, place, ill, move, sleeps, look, needed, longer, waits, admit, rate, text, without a finding) is undone: how many more can be.");
        undone(y -> y.room(71, 20));
        undone(y -> y.hand(2));
        undone(y -> y.child(-10, 0, 31, 60));
        undone(y -> y.month(5));
        undone(y -> y.slot(30));
        undone(y -> y.day());
        undone(y -> y.in(1, 0));
        undone(y -> y.to(0, 1));
        undone(y -> y.over(0, 3));
        undone(y -> y.over(2, 3));
        undone(y -> y.fetches(1, 4, true));
        undone(y -> y.fetches(0, 3, false));
        undone(y -> y.place(1, 1));
        undone(y -> y.place(0, -1));
        undone(y -> y.ill(0));
        undone(y -> y.move());
        undone(y -> y.sleeps(2, true));
        undone(y -> y.sleeps(0, false));
        undone(y -> y.look(0));
        undone(y -> y.needed(0, 59, 3));
        undone(y -> y.longer(7));
        undone(y -> y.waits(0));
        undone(y -> y.admit(1));
        undone(y -> y.rate(7));
        undone(y -> y.text(0));
        notUndone(y -> y.sheet(3, 8, 1));
        notUndone(y -> y.put(0, 0, 11));
        notUndone(y -> y.copy(0, 0, 0, 1, 1));
        notUndone(y -> y.as(0, 0));
        notUndone(y -> y.moves());
        notUndone(y -> y.moved(0));
        notUndone(y -> y.shifts(-1));
        notUndone(y -> y.proves(0));
        notUndone(y -> y.wrong());
    }

    /** A few of everything; 16 acts and more. */
    private static void busy(SmallRooms y) {
        y.room(23, 3);
        y.room(1071, 3);
        y.child(-15, -1, 31, 60);
        y.child(-16, 0, 7, 20);
        y.child(-40, 0, 5, 1040);
        y.hand(1);
        y.hand(0);
        y.hand(2);
        y.fetches(0, 3, true);
        y.fetches(2, 3, true);
        y.place(0, 0);
        y.in(0, 0);
        y.in(2, 1);
        y.sleeps(0, true);
        y.slot(4);
        y.look(0);
        y.slot(9);
        y.needed(3, 50, 1);
        y.waits(1);
        y.sheet(0, 8, 3);
        y.put(0, 0, 6);
        y.put(0, 1, 13);
        y.put(0, 2, 52);
    }

    private static void undone(ToIntFunction<SmallRooms> act) {
        SmallRooms still = new SmallRooms();
        busy(still);
        fresh();
        busy(x);
        due(1, act.applyAsInt(x) >= -1 ? 1 : 0);
        String changed = Look.at(x);
        fresh();
        busy(x);
        act.applyAsInt(x);
        due(15, x.undo());
        // What is kept differs, as one that was kept gave way to the act that is undone.
        String before = Look.at(still);
        same("is as it was", Look.withoutUndos(before), Look.withoutUndos(Look.at(x)));
        due(0, Look.withoutUndos(changed).equals(Look.withoutUndos(before)) ? 1 : 0);
    }

    private static void notUndone(Consumer<SmallRooms> act) {
        fresh();
        x.room(71, 1);
        x.hand(0);
        write(0, 8, 10, 12);
        act.accept(x);
        due(1, x.undo());
        due(0, x.all(1));
        due(0, x.undo());
        due(0, x.all(0));
        due(NONE, x.undo());
        act.accept(x);
        due(NONE, x.undo());
    }

    /** What an act, or several, wrote over: it stands again, not only how much of it there was. */
    private static void undoWhatWasWrittenOver() {
        undoneAll(y -> y.admit(1), y -> y.day(), y -> y.waits(2), y -> y.waits(0));
        undoneAll(y -> y.waits(0), y -> y.admit(1), y -> y.waits(2), y -> y.admit(0));
        undoneAll(y -> y.move(), y -> y.place(0, 1), y -> y.ill(0), y -> y.day(), y -> y.move());
        undoneAll(y -> y.day(), y -> y.in(1, 0), y -> y.sleeps(1, true), y -> y.slot(2), y -> y.look(1));
        undoneAll(y -> y.needed(0, 20, 3), y -> y.needed(10, 59, 0), y -> y.longer(3), y -> y.rate(3), y -> y.month(3));
        laterFirst();
        textOverText();
        fortyAgain();
        anotherDay();
    }

    /** What is led of a day that is taken back stands at the places of what is led of the day ahead. */
    private static void anotherDay() {
        fresh();
        childrenIn(1);
        x.sleeps(0, true);
        x.slot(3);
        x.over(0, 0);
        x.day();
        x.child(-10, -1, 31, 60);
        x.in(1, 0);
        x.in(0, 0);
        x.sleeps(0, true);
        x.look(0);
        for (int i = 0; i < 6; i++) {
            x.undo();
        }
        due(1, x.roll(2, 0));
        due(0, x.roll(3, 0));
        due(1, x.missed(0, false));
        due(0, x.missed(0, true));
        x.slot(59);
        due(1, x.missed(0, false));
        due(0, x.bill(0, 31, 0, true));
    }

    @SafeVarargs
    private static void undoneAll(ToIntFunction<SmallRooms>... acts) {
        SmallRooms still = new SmallRooms();
        busy(still);
        fresh();
        busy(x);
        for (ToIntFunction<SmallRooms> act : acts) {
            due(1, act.applyAsInt(x) >= -1 ? 1 : 0);
        }
        for (int i = 1; i <= acts.length; i++) {
            due(16 - i, x.undo());
        }
        same("is as it was", Look.withoutUndos(Look.at(still)), Look.withoutUndos(Look.at(x)));
    }

    private static void laterFirst() {
        fresh();
        x.room(71, 1);
        x.child(0, -1, 31, 20);
        x.child(0, -1, 31, 60);
        x.child(0, -1, 31, 60);
        x.waits(2);
        x.waits(1);
        x.admit(0);
        due(21, x.admit(2));
        due(21, x.childIs(2, 3));
        due(1, x.list(0));
        x.undo();
        due(0, x.childIs(2, 3));
        due(0, x.childIs(2, 7));
        due(2, x.list(0));
        due(1, x.list(1));
        due(0, x.places(0, 0, 21));
        due(21, x.earliest(1));
    }

    private static void textOverText() {
        fresh();
        rooms(1, 1);
        ratio(12, 13, 50);
        ratio(19);
        due(9, x.now(0, 2));
        x.undo();
        due(5, x.now(0, 2));
        ratio(50);
        due(0, x.wrong());
        x.undo();
        due(-1, x.wrong());
        due(5, x.now(0, 2));
        x.undo();
        due(0, x.wrong());
        due(0, x.now(0, 2));
    }

    /** What was pushed out of the latest 40 is led again. */
    private static void fortyAgain() {
        fresh();
        childrenIn(2);
        x.sleeps(0, true);
        x.slot(3);
        x.sleeps(1, true);
        for (int led = 3; led <= 40; led++) {
            due(led % 2 == 1 ? 1 : 2, led % 2 == 1 ? x.over(1, 0) : x.in(1, 0));
        }
        x.sleeps(1, true);
        for (int led = 5; led <= 40; led++) {
            x.look(1);
        }
        due(40, x.all(5));
        due(40, x.all(6));
        due(1, x.roll(0, 0));
        due(1, x.missed(0, false));
        x.over(1, 0);
        due(0, x.roll(0, 0));
        due(0, x.missed(0, false));
        x.undo();
        due(40, x.all(5));
        due(40, x.all(6));
        due(1, x.roll(0, 0));
        due(1, x.missed(0, false));
        due(0, x.missed(0, true));
    }

    private static void undoNothing() {
        promise(42, "NONE.");
        due(NONE, x.undo());
        due(NONE, x.undo());
        x.month(3);
        due(0, x.undo());
        due(NONE, x.undo());
        due(BEYOND, x.month(61));
        due(NONE, x.undo());
        x.all(0);
        x.moves();
        x.sheet(0, 8, 1);
        due(NONE, x.undo());
        due(6, x.all(7));
    }

    private static void undoSixteen() {
        promise(42, "(The latest 16 are kept; also such as changed nothing.)");
        for (int v = 1; v <= 16; v++) {
            x.month(v);
        }
        for (int left = 15; left >= 0; left--) {
            due(left, x.undo());
        }
        due(NONE, x.undo());
        due(0, x.month(0));
        fresh();
        for (int v = 1; v <= 17; v++) {
            x.month(v);
        }
        for (int left = 15; left >= 0; left--) {
            due(left, x.undo());
        }
        due(NONE, x.undo());
        due(1, x.month(1));
        fresh();
        x.month(5);
        for (int i = 0; i < 15; i++) {
            x.month(5);
        }
        due(15, x.undo());
        x.month(5);
        x.month(5);
        due(15, x.undo());
        for (int left = 14; left >= 0; left--) {
            due(left, x.undo());
        }
        due(5, x.month(5));
        undoOfNothingNew();
    }

    /** Acts that change nothing, each kept all the same. */
    private static void undoOfNothingNew() {
        fresh();
        childrenIn(1);
        x.hand(0);
        kept(y -> y.fetches(0, 0, true));
        kept(y -> y.fetches(0, 1, false));
        kept(y -> y.sleeps(0, false));
        x.day();
        kept(y -> y.day());
        kept(y -> y.month(0));
        kept(y -> y.slot(0));
        kept(y -> y.place(0, -1));
        kept(y -> y.move());
        kept(y -> y.needed(0, 59, 0));
        kept(y -> y.longer(36));
        kept(y -> y.rate(10));
        x.sheet(0, 8, 0);
        kept(y -> y.text(0));
    }

    private static void kept(ToIntFunction<SmallRooms> act) {
        x.month(0);
        int before = x.undo();
        act.applyAsInt(x);
        due(before, x.undo());
    }

    private static void all() {
        promise(43, "0 ROOMS, 1 HANDS, 2 CHILDREN, 3 CHILDREN that are IN, 4 THE SLOT, 5 what is led of the ROLL, 6 what is led of SLEEP, 7 how many acts answered a finding ever (this one, too, if it does).");
        allIs(0, 0, 0, 0, 0, 0, 0, 0);
        x.room(71, 5);
        x.room(71, 5);
        hands(0, 1, 2);
        children(1, 1, 1, 1);
        x.slot(9);
        x.in(0, 0);
        x.in(1, 1);
        x.sleeps(0, true);
        x.look(0);
        x.fetches(0, 0, true);
        allIs(2, 3, 4, 2, 9, 2, 2, 0);
        x.over(0, 0);
        allIs(2, 3, 4, 1, 9, 3, 3, 0);
        due(TAKEN, x.in(1, 0));
        x.undo();
        allIs(2, 3, 4, 2, 9, 2, 2, 1);
        due(BEYOND, x.all(8));
        due(2, x.all(7));
        due(BEYOND, x.all(-1));
        due(3, x.all(7));
        x.undo();
        x.day();
        allIs(2, 3, 4, 0, 0, 0, 0, 3);

        promise(43, "BEYOND: another what.");
        int told = 0;
        for (int what : row(8, 9, -1, LOW, HIGH)) {
            due(BEYOND, x.all(what));
            told++;
            due(told, x.all(7));
        }
    }

    private static void allIs(int... is) {
        for (int what = 0; what < is.length; what++) {
            due(is[what], x.all(what));
        }
    }
}
