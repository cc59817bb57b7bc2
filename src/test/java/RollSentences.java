/** The sentences of promises 22 to 29: rolls, sleeps; shifts. */
final class RollSentences extends Reading {
    static void read() {
        roll();
        sleeps();
        look();
        missed();
        needed();
        longer();
        shifts();
        proves();
        provesFindings();
    }

    private static void roll() {
        promise(22, "How many CHILDREN were IN as of a SLOT, by the ROLL; child: whether that one was (1, 0).");
        due(0, x.roll(0, -1));
        childrenIn(0);
        children(1, 1, 1);
        for (int c = 0; c < 3; c++) {
            x.fetches(c, 0, true);
            x.slot(10 * c + 5);
            x.in(c, 0);
        }
        x.slot(59);
        x.over(0, 0);
        int[] counts = {0, 0, 4, 0, 5, 1, 14, 1, 15, 2, 25, 3, 58, 3, 59, 2};
        for (int i = 0; i < counts.length; i += 2) {
            due(counts[i + 1], x.roll(counts[i], -1));
        }
        due(0, x.roll(4, 0));
        due(1, x.roll(5, 0));
        due(0, x.roll(5, 1));
        due(1, x.roll(58, 0));
        due(0, x.roll(59, 0));
        due(1, x.roll(59, 2));
        due(0, x.all(7));

        promise(22, "BEYOND: no such SLOT, CHILD (-1: all).");
        due(BEYOND, x.roll(0, 0));
        childrenIn(1);
        for (int slot : row(-1, 60, LOW, HIGH)) {
            due(BEYOND, x.roll(slot, -1));
            due(BEYOND, x.roll(slot, 0));
        }
        for (int child : row(-2, 1, LOW, HIGH)) {
            due(BEYOND, x.roll(0, child));
        }
        due(1, x.roll(0, -1));
        due(1, x.roll(59, 0));
    }

    private static void sleeps() {
        promise(23, "A CHILD SLEEPS (or wakes): 1 if that is new, else 0.");
        childrenIn(2);
        due(0, x.sleeps(0, false));
        due(0, x.all(6));
        due(1, x.sleeps(0, true));
        due(0, x.sleeps(0, true));
        due(1, x.all(6));
        due(1, x.childIs(0, 6));
        due(0, x.childIs(1, 6));
        due(0, x.sleeps(1, false));
        due(1, x.sleeps(0, false));
        due(0, x.sleeps(0, false));
        due(2, x.all(6));
        due(0, x.childIs(0, 6));

        promise(23, "BEYOND.");
        due(BEYOND, x.sleeps(0, true));
        childrenIn(1);
        for (int child : row(1, -1, LOW, HIGH)) {
            due(BEYOND, x.sleeps(child, true));
            due(BEYOND, x.sleeps(child, false));
        }
        due(0, x.all(6));

        promise(23, "NONE: it is not IN.");
        childrenIn(1);
        children(1);
        due(NONE, x.sleeps(1, true));
        due(NONE, x.sleeps(1, false));
        x.sleeps(0, true);
        x.over(0, 0);
        due(NONE, x.sleeps(0, true));
        due(NONE, x.sleeps(0, false));
        due(2, x.all(6));
        x.in(0, 0);
        due(1, x.sleeps(0, true));
        x.day();
        due(NONE, x.sleeps(0, false));
    }

    private static void look() {
        promise(24, "A LOOK at a CHILD: how many LOOKS are led.");
        childrenIn(1);
        x.sleeps(0, true);
        for (int looks = 1; looks < 40; looks++) {
            due(looks, x.look(0));
        }
        due(40, x.look(0));
        due(40, x.look(0));
        due(40, x.all(6));
        x.sleeps(0, false);
        x.sleeps(0, true);
        due(38, x.look(0));
        x.day();
        x.in(0, 0);
        x.sleeps(0, true);
        due(1, x.look(0));

        promise(24, "BEYOND.");
        due(BEYOND, x.look(0));
        childrenIn(1);
        x.sleeps(0, true);
        for (int child : row(1, -1, LOW, HIGH)) {
            due(BEYOND, x.look(child));
        }
        due(1, x.all(6));

        promise(24, "NONE: it does not SLEEP.");
        childrenIn(2);
        due(NONE, x.look(0));
        x.sleeps(0, true);
        due(NONE, x.look(1));
        x.sleeps(0, false);
        due(NONE, x.look(0));
        x.sleeps(0, true);
        x.over(0, 0);
        due(NONE, x.look(0));
        due(4, x.all(6));
    }

    private static void missed() {
        promise(25, "How many stretches of a CHILD are MISSED (first: the first SLOT of the first one).");
        childrenIn(2);
        x.slot(1);
        x.sleeps(1, true);
        x.slot(2);
        x.sleeps(0, true);
        for (int slot = 5; slot <= 20; slot += 3) {
            x.slot(slot);
            x.look(0);
        }
        due(6, x.missed(0, false));
        due(2, x.missed(0, true));
        due(1, x.missed(1, false));
        due(1, x.missed(1, true));
        x.slot(59);
        due(7, x.missed(0, false));
        due(2, x.missed(0, true));

        promise(25, "BEYOND.");
        due(BEYOND, x.missed(0, true));
        childrenIn(1);
        for (int child : row(1, -1, LOW, HIGH)) {
            due(BEYOND, x.missed(child, true));
            due(BEYOND, x.missed(child, false));
        }

        promise(25, "NONE: there is none (first).");
        childrenIn(2);
        due(NONE, x.missed(0, true));
        due(0, x.missed(0, false));
        x.sleeps(0, true);
        x.slot(2);
        due(NONE, x.missed(0, true));
        due(0, x.missed(0, false));
        x.slot(3);
        due(0, x.missed(0, true));
        due(1, x.missed(0, false));
        due(NONE, x.missed(1, true));
        x.day();
        due(NONE, x.missed(0, true));
    }

    private static void needed() {
        promise(26, "NEEDED in SLOTS from one to another one becomes n (0 to 8): how many SLOTS are there.");
        x.longer(1);
        due(60, x.needed(0, 59, 8));
        due(480, x.shifts(-1));
        due(1, x.needed(0, 0, 0));
        due(472, x.shifts(-1));
        due(1, x.shifts(0));
        due(1, x.needed(59, 59, 7));
        due(471, x.shifts(-1));
        due(58, x.needed(1, 58, 0));
        due(7, x.shifts(-1));
        due(3, x.needed(10, 12, 1));
        due(10, x.shifts(-1));
        due(10, x.shifts(0));
        due(12, x.shifts(2));
        due(59, x.shifts(3));

        promise(26, "BEYOND.");
        for (int n : row(-1, 9, LOW, HIGH)) {
            due(BEYOND, x.needed(0, 59, n));
        }
        int[][] slots = {{-1, 5}, {LOW, 5}, {5, 60}, {5, HIGH}, {60, 60}, {-1, -1}, {6, 5}, {59, 0}, {HIGH, LOW}};
        for (int[] each : slots) {
            due(BEYOND, x.needed(each[0], each[1], 1));
        }
        due(0, x.shifts(-1));
    }

    private static void longer() {
        promise(27, "LONG becomes v: what it was.");
        due(36, x.longer(60));
        due(60, x.longer(1));
        due(1, x.longer(1));
        due(1, x.longer(35));
        due(35, x.longer(36));

        promise(27, "BEYOND.");
        for (int v : row(0, -1, 61, LOW, HIGH)) {
            due(BEYOND, x.longer(v));
        }
        due(36, x.longer(36));
    }

    private static void shifts() {
        promise(28, "FEWEST (i -1); else the SLOT in which SHIFT i begins.");
        due(0, x.shifts(-1));
        x.needed(0, 0, 2);
        x.needed(40, 40, 1);
        due(3, x.shifts(-1));
        due(0, x.shifts(0));
        due(0, x.shifts(1));
        due(24, x.shifts(2));
        x.longer(5);
        due(3, x.shifts(-1));
        due(40, x.shifts(2));
        due(0, x.all(7));

        promise(28, "BEYOND: i is below -1.");
        for (int i : row(-2, -100001, LOW)) {
            due(BEYOND, x.shifts(i));
        }
        x.needed(0, 59, 8);
        due(BEYOND, x.shifts(-2));

        promise(28, "NONE: there is none such.");
        due(NONE, x.shifts(0));
        x.needed(59, 59, 8);
        due(24, x.shifts(7));
        due(NONE, x.shifts(8));
        due(NONE, x.shifts(HIGH));
        x.longer(1);
        x.needed(0, 59, 8);
        due(59, x.shifts(479));
        due(NONE, x.shifts(480));
    }

    private static void proves() {
        promise(29, "Whether a sheet's SHIFTS (it tells the SLOTS in which they begin, rising) cover what is NEEDED, and are FEWEST: -1 (no finding);");
        write(0, 8);
        due(-1, x.proves(0));
        x.longer(20);
        x.needed(0, 39, 1);
        x.needed(19, 20, 2);
        proofIs(-1, 0, 19, 20);
        proofIs(-1, 0, 1, 20);
        proofIs(-1, 0, 1, 20);
        x.needed(10, 10, 2);
        proofIs(-1, 0, 1, 20);
        due(0, x.all(7));

        promise(29, "else the first SLOT that lacks some;");
        x.longer(20);
        x.needed(0, 39, 1);
        proofIs(0);
        proofIs(20, 0);
        proofIs(0, 1, 20);
        proofIs(20, 0, 21);
        proofIs(39, 0, 19);
        proofIs(20, 0, 0, 0);
        proofIs(20, 0, 0, 0, 0, 40);
        x.needed(59, 59, 8);
        proofIs(59, 0, 20, 20);
        x.needed(40, 59, 8);
        proofIs(40, 0, 20, 40, 40, 40, 40, 40, 40);
        proofIs(-1, 0, 20, 40, 40, 40, 40, 40, 40, 40, 40);

        promise(29, "60 if they are more than FEWEST.");
        proofIs(60, 0);
        proofIs(60, 24);
        x.longer(20);
        x.needed(0, 39, 1);
        proofIs(60, 0, 0, 20);
        proofIs(60, 0, 20, 40);
        proofIs(-1, 0, 20);
        x.longer(60);
        proofIs(60, 0, 0);
        proofIs(-1, 0);
    }

    /** What the shifts of a sheet, in each width, prove. */
    private static void proofIs(int want, int... begins) {
        for (int bits = 8; bits <= 32; bits *= 2) {
            write(1, bits, begins);
            due(want, x.proves(1));
        }
    }

    private static void provesFindings() {
        promise(29, "BEYOND: no such sheet.");
        for (int s : row(-1, 4, LOW, HIGH)) {
            due(BEYOND, x.proves(s));
        }

        promise(29, "MISSING.");
        for (int s = 0; s < 4; s++) {
            due(MISSING, x.proves(s));
            write(s, 8);
            due(-1, x.proves(s));
            x.sheet(s, 0, 0);
            due(MISSING, x.proves(s));
        }

        promise(29, "KIND: they do not rise (like ones may follow), or one is not within the DAY.");
        proofIs(60, 0, 0, 1, 1);
        proofIs(KIND, 1, 0);
        proofIs(KIND, 0, 5, 4);
        proofIs(KIND, 0, 5, 4, 6);
        proofIs(60, 24);
        proofIs(KIND, 25);
        proofIs(KIND, 24, 25);
        proofIs(KIND, -1);
        proofIs(KIND, -1, 0);
        x.longer(60);
        proofIs(60, 0);
        proofIs(KIND, 1);
        x.longer(1);
        proofIs(60, 59);
        proofIs(KIND, 60);
        proofIs(KIND, 59, 127);
        x.needed(0, 0, 1);
        proofIs(KIND, 60);
        write(0, 32, HIGH);
        due(KIND, x.proves(0));
        write(0, 32, LOW);
        due(KIND, x.proves(0));
        write(0, 32, 256);
        due(KIND, x.proves(0));
        write(0, 8, 256);
        due(-1, x.proves(0));
    }
}
