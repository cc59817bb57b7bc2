import java.util.function.IntUnaryOperator;

/** All that calls can tell of an object, in a text; the object is used up by it. */
final class Look {
    private final SmallRooms x;
    private final StringBuilder told = new StringBuilder();

    private Look(SmallRooms x) {
        this.x = x;
    }

    static String at(SmallRooms x) {
        Look look = new Look(x);
        look.atCounts();
        look.atChildren();
        look.atRooms();
        look.atHands();
        look.atLists();
        look.atSettings();
        look.told.append(" undos ");
        look.atUndos();
        return look.told.toString();
    }

    /** A look that doesn't tell what can be undone. */
    static String withoutUndos(String look) {
        return look.substring(0, look.indexOf(" undos "));
    }

    private void tell(String what, int count, IntUnaryOperator call) {
        told.append(' ').append(what);
        for (int i = 0; i < count; i++) {
            told.append(' ').append(call.applyAsInt(i));
        }
    }

    private void atCounts() {
        tell("all", 7, x::all);
    }

    private void atChildren() {
        int count = x.all(2);
        for (int child = 0; child < count; child++) {
            int c = child;
            tell("child", 9, what -> x.childIs(c, what));
            tell("roomOf", 1, i -> x.roomOf(c, 10));
            tell("roll", 3, i -> x.roll(5 * i, c));
            tell("missed", 1, i -> x.missed(c, false));
            tell("missed", 1, i -> x.missed(c, true));
            tell("earliest", 1, i -> x.earliest(c));
            tell("bill", 1, i -> x.bill(c, 1, 5, true));
        }
    }

    private void atRooms() {
        int count = x.all(0);
        for (int room = 0; room < count; room++) {
            int r = room;
            tell("room", 5, what -> x.now(r, what));
            tell("places", 4, i -> x.places(r, i, 12));
        }
        tell("lacking", 1, i -> x.lacking());
    }

    private void atHands() {
        int count = x.all(1);
        tell("moves", 1, i -> x.moves());
        tell("moved", count, x::moved);
        for (int kind = 0; kind < 4; kind++) {
            int k = kind;
            tell("as", count, h -> x.as(h, k));
        }
    }

    private void atLists() {
        tell("list", x.all(2) + 1, x::list);
        tell("shifts", 5, i -> x.shifts(i - 1));
        tell("wrong", 1, i -> x.wrong());
        tell("proves", 4, x::proves);
    }

    /** Acts that tell what was. */
    private void atSettings() {
        tell("month", 1, i -> x.month(0));
        tell("longer", 1, i -> x.longer(36));
        tell("rate", 1, i -> x.rate(10));
    }

    /** The sheets, by the text that they make; then all is taken back. */
    private void atUndos() {
        for (int s = 0; s < 4; s++) {
            int sheet = s;
            tell("text", 1, i -> x.text(sheet));
            tell("wrong", 1, i -> x.wrong());
        }
        for (int i = 0; i < 17; i++) {
            tell("undo", 1, none -> x.undo());
            atCounts();
        }
    }
}
