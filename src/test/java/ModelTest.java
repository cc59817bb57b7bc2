import java.util.ArrayDeque;
import java.util.ArrayList;
import java.util.Arrays;
import java.util.List;
import java.util.Random;

/** Long runs of mixed calls on SmallRooms and on PlainNursery: all answers are alike. */
public final class ModelTest {
    private static final int RUNS = 1500;
    private static final int CALLS = 512;
    private static final int[] EXTREMES = {
        Integer.MIN_VALUE, Integer.MIN_VALUE + 1, -100001, -2, -1, 0, 1, 31, 32, 60, 61, 71, 72,
        100, 7171, 7172, 7200, 65536, Integer.MAX_VALUE - 1, Integer.MAX_VALUE
    };
    private static final int[] SIGNS = {1, 2, 3, 4, 5, 6, 10, 11, 12, 13, 14, 48, 49, 50, 51, 52, 53, 54};

    private final Random random;
    private final SmallRooms real = new SmallRooms();
    private final PlainNursery plain = new PlainNursery();
    private final List<String> told = new ArrayList<>();
    /** Calls that belong together and come next. */
    private final ArrayDeque<int[]> coming = new ArrayDeque<>();
    private final int style;
    private int childCount;

    private ModelTest(long seed) {
        random = new Random(seed);
        style = (int) (seed % 6);
    }

    public static void main(String[] args) {
        int[] answered = new int[2];
        for (int seed = 0; seed < RUNS; seed++) {
            ModelTest run = new ModelTest(seed);
            for (int i = 0; i < CALLS; i++) {
                int[] a = run.next(i);
                int want = run.ask(a, true);
                int got = run.ask(a, false);
                answered[want < -99999 ? 1 : 0]++;
                run.told.add(name(a) + " = " + got);
                if (want != got) {
                    System.out.println("seed " + seed + ", due is " + want + ":");
                    run.told.forEach(System.out::println);
                    System.exit(1);
                }
            }
        }
        System.out.println("model: " + answered[0] + " answers and " + answered[1] + " findings alike");
    }

    private static final String[] NAMES = {
        "room", "hand", "as", "child", "childIs", "roomOf", "month", "slot", "day", "in", "to", "over",
        "fetches", "place", "ill", "now", "lacking", "moves", "moved", "move", "roll", "sleeps", "look",
        "missed", "needed", "longer", "shifts", "proves", "waits", "list", "earliest", "admit", "places",
        "rate", "bill", "text", "wrong", "sheet", "put", "copy", "undo", "all"
    };
    /** How often each call comes, by the style of the run. */
    private static final int[][] WEIGHTS = {
        {3, 3, 1, 4, 2, 2, 1, 3, 1, 6, 3, 3, 3, 4, 2, 3, 2, 2, 2, 2, 2, 3, 3, 3, 2, 1, 2, 2, 2, 2, 2, 2, 2, 1, 2, 2, 1, 2, 6, 2, 2, 2},
        {2, 3, 1, 5, 1, 0, 1, 0, 0, 9, 2, 1, 1, 9, 1, 3, 2, 5, 9, 1, 0, 1, 0, 0, 0, 0, 0, 0, 0, 0, 0, 0, 0, 0, 0, 4, 1, 1, 9, 1, 1, 0},
        {2, 0, 0, 5, 1, 0, 0, 12, 0, 30, 2, 20, 4, 0, 0, 0, 0, 0, 0, 0, 9, 20, 20, 15, 0, 0, 0, 0, 0, 0, 0, 0, 0, 1, 3, 0, 0, 0, 0, 0, 1, 2},
        {1, 0, 0, 0, 0, 0, 0, 0, 0, 0, 0, 0, 0, 0, 0, 0, 0, 0, 0, 0, 0, 0, 0, 0, 9, 2, 9, 9, 0, 0, 0, 0, 0, 0, 0, 0, 0, 3, 20, 4, 1, 1},
        {1, 0, 0, 3, 4, 4, 0, 0, 0, 0, 0, 0, 0, 0, 0, 0, 0, 0, 0, 0, 0, 0, 0, 0, 0, 0, 0, 0, 9, 15, 15, 4, 15, 0, 0, 0, 0, 0, 0, 0, 3, 1},
        {4, 4, 1, 9, 1, 1, 3, 1, 1, 20, 4, 2, 2, 9, 2, 15, 9, 3, 3, 2, 0, 6, 1, 1, 0, 0, 0, 0, 0, 0, 0, 0, 0, 0, 0, 15, 9, 6, 60, 2, 2, 1},
    };

    private int pick() {
        int sum = 0;
        for (int w : WEIGHTS[style]) {
            sum += w;
        }
        int left = random.nextInt(sum);
        for (int i = 0; i < NAMES.length; i++) {
            left -= WEIGHTS[style][i];
            if (left < 0) {
                return i;
            }
        }
        return 0;
    }

    private int upTo(int least, int most) {
        if (random.nextInt(60) == 0) {
            return EXTREMES[random.nextInt(EXTREMES.length)];
        }
        if (random.nextInt(30) == 0) {
            return random.nextBoolean() ? least - 1 : most + 1;
        }
        return least + random.nextInt(most - least + 1);
    }

    private int ages() {
        switch (random.nextInt(5)) {
            case 0: return 23;
            case 1: return 2435;
            case 2: return 3671;
            case 3: return 71;
            default: return upTo(0, 40) * 100 + upTo(0, 71);
        }
    }

    private int child() {
        return upTo(0, Math.max(0, childCount - 1));
    }

    private int bit() {
        return random.nextInt(2);
    }

    private int put() {
        if (style == 3) {
            return upTo(0, 59);
        }
        return random.nextInt(12) == 0 ? upTo(-300, 70000) : SIGNS[random.nextInt(SIGNS.length)];
    }

    private static int number(String name) {
        return Arrays.asList(NAMES).indexOf(name);
    }

    /** A text of the right form (now and then not), told by a sheet. */
    private void planText() {
        List<Integer> signs = new ArrayList<>();
        int depth = 0;
        int most = random.nextInt(15);
        while (signs.size() < most && !(depth == 1 && signs.size() > 2 && random.nextInt(4) == 0)) {
            boolean last = most - signs.size() < depth;
            boolean joins = depth >= 5 || last || depth >= 2 && random.nextInt(2) == 0;
            if (random.nextInt(80) == 0) {
                joins = !joins;
            }
            signs.add(joins ? 50 + random.nextInt(5) : SIGNS[random.nextInt(13)]);
            depth += joins ? -1 : 1;
        }
        planSheet(signs);
        coming.add(row(number("text"), coming.peekLast()[1]));
        coming.add(row(number("wrong")));
        coming.add(row(number("now"), upTo(0, 4), 2));
    }

    private void planSheet(List<Integer> numbers) {
        int sheet = random.nextInt(4);
        coming.add(row(number("sheet"), sheet, 8 << random.nextInt(3), numbers.size()));
        for (int i = 0; i < numbers.size(); i++) {
            coming.add(row(number("put"), sheet, i, numbers.get(i)));
        }
    }

    /** THE SHIFTS, or something near them, told by a sheet. */
    private void planProof() {
        List<Integer> begins = new ArrayList<>(plain.shiftsNow());
        while (begins.size() > 60) {
            begins.remove(60);
        }
        if (random.nextInt(3) == 0 && !begins.isEmpty()) {
            int i = random.nextInt(begins.size());
            begins.set(i, Math.max(0, begins.get(i) + (random.nextInt(4) == 0 ? 1 : -1)));
        }
        if (random.nextInt(4) == 0 && begins.size() < 60) {
            begins.add(random.nextInt(begins.size() + 1), random.nextInt(30));
        }
        if (random.nextInt(4) != 0) {
            begins.sort(null);
        }
        planSheet(begins);
        coming.add(row(number("proves"), coming.peekLast()[1]));
    }

    private void planUndos() {
        for (int left = 1 + random.nextInt(random.nextInt(5) == 0 ? 18 : 4); left > 0; left--) {
            coming.add(row(number("undo")));
            if (random.nextInt(3) == 0) {
                coming.add(row(number("lacking")));
                coming.add(row(number("all"), random.nextInt(8)));
            }
        }
    }

    private void planTogether() {
        int kind = random.nextInt(60);
        if (kind < 2 && (style == 0 || style == 1) || kind < 8 && style == 5) {
            planText();
        } else if (kind < 4 && (style == 0 || style == 3)) {
            planProof();
        } else if (kind == 8 && random.nextInt(3) == 0) {
            planUndos();
        } else if (kind == 9 && style != 2 && random.nextInt(4) == 0) {
            coming.add(row(number("slot"), 50 + random.nextInt(10)));
        } else if (kind < 6 && style == 2) {
            planBusyHours();
        }
    }

    /** More comings, goings and looks than are led. */
    private void planBusyHours() {
        for (int left = 30; left > 0; left--) {
            int who = random.nextInt(10);
            coming.add(row(number("fetches"), who, 0, 1));
            coming.add(row(number("in"), who, plain.roomNow(who)));
            coming.add(row(number("sleeps"), who, 1));
            if (bit() == 0) {
                coming.add(row(number("slot"), Math.min(59, plain.all(4) + (30 - left) / 3)));
            }
            coming.add(row(number("look"), who));
            coming.add(row(number("missed"), random.nextInt(10), bit()));
            coming.add(bit() == 0 ? row(number("over"), who, 0) : row(number("look"), who));
            coming.add(row(number("roll"), random.nextInt(60), -1));
            coming.add(row(number("all"), 5 + bit()));
        }
    }

    private int roomFor(int child) {
        int fit = plain.roomNow(child);
        return fit < 0 || random.nextInt(4) == 0 ? upTo(0, 4) : fit;
    }

    /** A call's number and its arguments; a few rooms, hands and children come first. */
    private int[] next(int i) {
        if (i >= 25 && coming.isEmpty()) {
            planTogether();
        }
        return coming.isEmpty() ? alone(i) : coming.poll();
    }

    private int[] alone(int i) {
        int call = i < 25 ? new int[] {0, 1, 3, 3, 3}[i % 5] : pick();
        if (i < 3) {
            call = 0;
        }
        int roomMost = 4;
        int who = child();
        switch (NAMES[call]) {
            case "room": return row(call, ages(), upTo(1, style != 4 && random.nextInt(3) == 0 ? 20 : style == 4 ? 2 : 4));
            case "hand": return row(call, upTo(0, 3));
            case "as": return row(call, upTo(0, 6), upTo(0, 3));
            case "child":
                return row(call, style == 4 && bit() == 0 ? upTo(-20, 5) : upTo(-71, style == 4 ? 60 : 10), childCount == 0 || bit() == 0 ? -1 : upTo(-1, childCount - 1),
                    bit() == 0 ? 31 : upTo(0, 31), random.nextInt(10) == 0 ? upTo(0, 60) * 100 + upTo(0, 60) : monthsInOrder());
            case "childIs": return row(call, child(), upTo(0, 8));
            case "roomOf": return row(call, child(), upTo(0, 60));
            case "month": return row(call, bit() == 0 ? upTo(0, 10) : upTo(0, 60));
            case "slot": return row(call, Math.min(59, plain.all(4) + random.nextInt(4)) + (random.nextInt(20) == 0 ? -1 : 0));
            case "in": return row(call, who, roomFor(who));
            case "to": return row(call, who, upTo(0, roomMost));
            case "over": return row(call, child(), upTo(0, style == 2 ? 1 : 15));
            case "fetches": return row(call, child(), upTo(0, style == 2 ? 1 : 15), style == 2 ? 1 : bit());
            case "place": return row(call, upTo(0, 6), upTo(-1, roomMost));
            case "ill": case "moved": return row(call, upTo(0, 6));
            case "now": return row(call, upTo(0, roomMost), upTo(0, 4));
            case "roll": return row(call, upTo(0, 59), bit() == 0 ? -1 : child());
            case "sleeps": case "missed": return row(call, child(), bit());
            case "look": case "waits": case "earliest": case "admit": return row(call, child());
            case "needed": return row(call, upTo(0, 40), upTo(20, 59), upTo(0, random.nextInt(3) == 0 ? 8 : 2));
            case "longer": return row(call, bit() == 0 ? upTo(20, 60) : upTo(1, 60));
            case "shifts": return row(call, upTo(-1, 8));
            case "proves": case "text": return row(call, upTo(0, 3));
            case "list": return row(call, upTo(0, 6));
            case "places": return row(call, upTo(0, roomMost), upTo(0, 4), upTo(0, 60));
            case "rate": return row(call, upTo(1, 99));
            case "bill": return row(call, child(), upTo(0, 31), upTo(0, 30), bit());
            case "sheet": return row(call, upTo(0, 3), new int[] {8, 16, 32, 8, 16, 32, 0, 7}[random.nextInt(8)], size());
            case "put": return row(call, upTo(0, 3), upTo(0, 5), put());
            case "copy": return row(call, upTo(0, 3), upTo(0, 3), upTo(0, 3), upTo(0, 3), upTo(0, 4));
            case "all": return row(call, upTo(0, 7));
            default: return row(call);
        }
    }

    private int size() {
        return random.nextInt(4) == 0 ? upTo(0, 60) : upTo(1, 6);
    }

    private int monthsInOrder() {
        int first = random.nextInt(30);
        return first * 100 + first + random.nextInt(61 - first);
    }

    private static int[] row(int... numbers) {
        return numbers;
    }

    private static String name(int[] a) {
        StringBuilder text = new StringBuilder(NAMES[a[0]]);
        for (int i = 1; i < a.length; i++) {
            text.append(' ').append(a[i]);
        }
        return text.toString();
    }

    private int ask(int[] a, boolean ofPlain) {
        int answer = ofPlain ? askPlain(a) : askReal(a);
        if (NAMES[a[0]].equals("child") && answer >= 0) {
            childCount = answer + 1;
        }
        return answer;
    }

    private int askPlain(int[] a) {
        PlainNursery x = plain;
        switch (NAMES[a[0]]) {
            case "room": return x.room(a[1], a[2]);
            case "hand": return x.hand(a[1]);
            case "as": return x.as(a[1], a[2]);
            case "child": return x.child(a[1], a[2], a[3], a[4]);
            case "childIs": return x.childIs(a[1], a[2]);
            case "roomOf": return x.roomOf(a[1], a[2]);
            case "month": return x.month(a[1]);
            case "slot": return x.slot(a[1]);
            case "day": return x.day();
            case "in": return x.in(a[1], a[2]);
            case "to": return x.to(a[1], a[2]);
            case "over": return x.over(a[1], a[2]);
            case "fetches": return x.fetches(a[1], a[2], a[3] == 1);
            case "place": return x.place(a[1], a[2]);
            case "ill": return x.ill(a[1]);
            case "now": return x.now(a[1], a[2]);
            case "lacking": return x.lacking();
            case "moves": return x.moves();
            case "moved": return x.moved(a[1]);
            case "move": return x.move();
            case "roll": return x.roll(a[1], a[2]);
            case "sleeps": return x.sleeps(a[1], a[2] == 1);
            case "look": return x.look(a[1]);
            case "missed": return x.missed(a[1], a[2] == 1);
            case "needed": return x.needed(a[1], a[2], a[3]);
            case "longer": return x.longer(a[1]);
            case "shifts": return x.shifts(a[1]);
            case "proves": return x.proves(a[1]);
            case "waits": return x.waits(a[1]);
            case "list": return x.list(a[1]);
            case "earliest": return x.earliest(a[1]);
            case "admit": return x.admit(a[1]);
            case "places": return x.places(a[1], a[2], a[3]);
            case "rate": return x.rate(a[1]);
            case "bill": return x.bill(a[1], a[2], a[3], a[4] == 1);
            case "text": return x.text(a[1]);
            case "wrong": return x.wrong();
            case "sheet": return x.sheet(a[1], a[2], a[3]);
            case "put": return x.put(a[1], a[2], a[3]);
            case "copy": return x.copy(a[1], a[2], a[3], a[4], a[5]);
            case "undo": return x.undo();
            case "all": return x.all(a[1]);
            default: return 0;
        }
    }

    private int askReal(int[] a) {
        SmallRooms x = real;
        switch (NAMES[a[0]]) {
            case "room": return x.room(a[1], a[2]);
            case "hand": return x.hand(a[1]);
            case "as": return x.as(a[1], a[2]);
            case "child": return x.child(a[1], a[2], a[3], a[4]);
            case "childIs": return x.childIs(a[1], a[2]);
            case "roomOf": return x.roomOf(a[1], a[2]);
            case "month": return x.month(a[1]);
            case "slot": return x.slot(a[1]);
            case "day": return x.day();
            case "in": return x.in(a[1], a[2]);
            case "to": return x.to(a[1], a[2]);
            case "over": return x.over(a[1], a[2]);
            case "fetches": return x.fetches(a[1], a[2], a[3] == 1);
            case "place": return x.place(a[1], a[2]);
            case "ill": return x.ill(a[1]);
            case "now": return x.now(a[1], a[2]);
            case "lacking": return x.lacking();
            case "moves": return x.moves();
            case "moved": return x.moved(a[1]);
            case "move": return x.move();
            case "roll": return x.roll(a[1], a[2]);
            case "sleeps": return x.sleeps(a[1], a[2] == 1);
            case "look": return x.look(a[1]);
            case "missed": return x.missed(a[1], a[2] == 1);
            case "needed": return x.needed(a[1], a[2], a[3]);
            case "longer": return x.longer(a[1]);
            case "shifts": return x.shifts(a[1]);
            case "proves": return x.proves(a[1]);
            case "waits": return x.waits(a[1]);
            case "list": return x.list(a[1]);
            case "earliest": return x.earliest(a[1]);
            case "admit": return x.admit(a[1]);
            case "places": return x.places(a[1], a[2], a[3]);
            case "rate": return x.rate(a[1]);
            case "bill": return x.bill(a[1], a[2], a[3], a[4] == 1);
            case "text": return x.text(a[1]);
            case "wrong": return x.wrong();
            case "sheet": return x.sheet(a[1], a[2], a[3]);
            case "put": return x.put(a[1], a[2], a[3]);
            case "copy": return x.copy(a[1], a[2], a[3], a[4], a[5]);
            case "undo": return x.undo();
            case "all": return x.all(a[1]);
            default: return 0;
        }
    }
}
