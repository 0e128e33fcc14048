/** Terms: what THE DECODER does, when, and how it reads R. */
public final class DecoderTermsTest {
    private static final Due DUE = new Due();

    public static void main(String[] args) {
        eachInstructionByItsLastByte();
        blockedAboveCount();
        inOrderBehindABlockedOne();
        otherStreamsDoNotWait();
        someOfAStreamAreReleased();
        acknowledgedWhenItRefers();
        requiredFarthestAboveCount();
        requiredFarthestBelowCount();
        requiredAtEveryTurn();
        DUE.done();
    }

    /** "does instructions as their last bytes come": of all three kinds, with a value and without */
    private static void eachInstructionByItsLastByte() {
        FieldPack x = new FieldPack(400, 0);
        String[][] fields = {{"zz", "v"}, {"zz", ""}, {"c", "vw"}, {"b", ""}, {"zz", "vw"}, {"y", ""}};
        for (String[] f : fields) {
            Due.put(x, f[0], f[1]);
        }
        x.encode(0);
        DUE.bytes("instructions", x, 0,
                66, 'z', 'z', 1, 'v', 128, 0, 194, 2, 'v', 'w', 193, 0, 130, 2, 'v', 'w', 65, 'y', 0);
        int[] lengths = {5, 2, 4, 2, 4, 3};
        int count = 0;
        for (int length : lengths) {
            for (int i = 1; i <= length; i++) {
                DUE.is("one byte", x.move(0, 1), 1);
                int due = i == length ? count + 1 : count;
                DUE.is("COUNT behind byte " + i + " of instruction " + count, x.told(1, 0), due);
            }
            DUE.is("name", x.entry(1, count, 0), Due.text(fields[count][0]));
            DUE.is("value", x.entry(1, count, 1), Due.text(fields[count][1]));
            count++;
        }
        DUE.is("no byte is left", x.move(0, 1), 0);
    }

    /** "BLOCKED as long as its R is above COUNT": R = COUNT + 1, R = COUNT, R = COUNT - 1 */
    private static void blockedAboveCount() {
        for (int count = 0; count <= 3; count++) {
            FieldPack x = new FieldPack(400, 1);
            Due.put(x, "q", "");
            Due.put(x, "r", "");
            x.encode(0);
            Due.put(x, "s", "");
            x.encode(1);
            x.move(0, 3 * count);
            DUE.is("COUNT", x.told(1, 0), count);
            DUE.is("R = 2, COUNT = " + count, x.deliver(0), count < 2 ? 0 : 1);
            DUE.told("R = 2", x, 1, count, count, 33 * count, count < 2 ? 1 : 0, count < 2 ? 1 : 0);
            DUE.is("sections(0)", x.sections(0), count < 2 ? 0 : 1);
        }
    }

    /** "those of a stream are decoded in order (one behind a BLOCKED one waits, too)" */
    private static void inOrderBehindABlockedOne() {
        FieldPack x = new FieldPack(400, 1);
        Due.put(x, "q", "");
        x.encode(0);
        Due.put(x, "r", "");
        x.encode(0);
        Due.put(x, "q", "");
        x.encode(0);
        x.encode(0);
        x.move(0, 3);
        DUE.is("R = 1, COUNT = 1", x.deliver(0), 1);
        DUE.is("R = 2: BLOCKED", x.deliver(0), 0);
        DUE.is("R = 1, but behind it", x.deliver(0), 0);
        DUE.is("R = 0, but behind it", x.deliver(0), 0);
        DUE.told("three wait, one stream", x, 1, 1, 1, 33, 3, 1);
        x.move(0, 2);
        DUE.told("still", x, 1, 1, 1, 33, 3, 1);
        x.move(0, 1);
        DUE.told("none", x, 1, 2, 2, 66, 0, 0);
        DUE.is("sections(0)", x.sections(0), 4);
        DUE.is("second", x.decoded(0, 1, 0, 0), 'r');
        DUE.is("third", x.decoded(0, 2, 0, 0), 'q');
        DUE.is("fourth", x.decoded(0, 3, 0, 0), -1);
        DUE.bytes("three acknowledged", x, 1, 128, 128, 128);
    }

    private static void otherStreamsDoNotWait() {
        FieldPack x = new FieldPack(400, 1);
        Due.put(x, "q", "");
        x.encode(3);
        x.deliver(3);
        for (int s = 0; s < 8; s++) {
            Due.put(x, "a", "");
            x.encode(s);
            DUE.is("deliver(" + s + ")", x.deliver(s), s == 3 ? 0 : 1);
        }
        DUE.told("two wait, one stream", x, 1, 0, 0, 0, 2, 1);
    }

    /** A move frees the first of a stream, but not those behind it; then streams go in order 0 .. 7. */
    private static void someOfAStreamAreReleased() {
        FieldPack x = new FieldPack(400, 4);
        for (int s : new int[] {7, 0, 4}) {
            Due.put(x, "q", "");
            x.encode(s);
            Due.put(x, "r", "");
            x.encode(s);
            x.deliver(s);
            x.deliver(s);
        }
        DUE.told("all wait", x, 1, 0, 0, 0, 6, 3);
        x.move(0, 3);
        DUE.told("the first ones are decoded", x, 1, 1, 1, 33, 3, 3);
        DUE.bytes("in order", x, 1, 128, 132, 135);
        x.move(0, 3);
        DUE.told("none waits", x, 1, 2, 2, 66, 0, 0);
        DUE.bytes("in order", x, 1, 128, 132, 135, 128, 132, 135);
    }

    /** "One that is decoded, with R above 0, is acknowledged on wire 1." */
    private static void acknowledgedWhenItRefers() {
        FieldPack x = new FieldPack(400, 1);
        x.encode(6);
        Due.put(x, "q", "");
        x.encode(6);
        Due.put(x, "a", "");
        x.encode(6);
        x.deliver(6);
        DUE.bytes("R = 0", x, 1);
        x.deliver(6);
        DUE.bytes("R = 1, not decoded yet", x, 1);
        x.deliver(6);
        x.move(0, 3);
        DUE.bytes("R = 1, then R = 0", x, 1, 134);
    }

    /** "at most COUNT + C / 32": all of a full table are still to come */
    private static void requiredFarthestAboveCount() {
        for (int[] c : new int[][] {{33, 1}, {63, 1}, {66, 2}, {95, 2}, {99, 3}, {396, 12}, {400, 12}}) {
            FieldPack x = new FieldPack(c[0], 1);
            for (int i = 0; i < c[1]; i++) {
                x.field('i' + i, 0, false);
            }
            x.encode(0);
            String what = "C = " + c[0] + ", R = " + c[1];
            DUE.is(what + ": told as", x.look(2, 0), c[1] % (2 * c[1]) + 1);
            DUE.is(what + ", COUNT = 0", x.deliver(0), 0);
            x.move(0, 3 * c[1] - 1);
            DUE.is(what + ", one to come", x.told(1, 3), 1);
            x.move(0, 1);
            DUE.is(what + ", all have come", x.told(1, 3), 0);
            DUE.is("the last field", x.decoded(0, 0, c[1] - 1, 0), 'i' + c[1] - 1);
        }
    }

    /** "above COUNT - C / 32": only the oldest of a full table is referred to */
    private static void requiredFarthestBelowCount() {
        for (int[] c : new int[][] {{33, 1}, {63, 1}, {66, 2}, {95, 2}, {99, 3}, {396, 12}, {400, 12}}) {
            FieldPack x = new FieldPack(c[0], 0);
            for (int i = 0; i < c[1]; i++) {
                x.field('i' + i, 0, false);
            }
            x.encode(0);
            x.move(0, 6000);
            x.increment();
            x.move(1, 1);
            x.field('i', 0, false);
            x.encode(1);
            String what = "C = " + c[0] + ", R = 1, COUNT = " + c[1];
            DUE.bytes(what, x, 3, 1 % (2 * c[1]) + 1, c[1] - 1, 127 + c[1]);
            DUE.is(what, x.deliver(1), 1);
            DUE.is(what, x.decoded(1, 0, 0, 0), 'i');
            DUE.bytes(what, x, 1, 129);
        }
    }

    /** Both edges once more, at every COUNT up to where what R is told as has come round twice. */
    private static void requiredAtEveryTurn() {
        for (int count = 0; count <= 9; count++) {
            FieldPack x = new FieldPack(66, 1);
            for (int i = 0; i < count; i++) {
                x.field('i' + i, 0, false);
                x.encode(7);
                x.move(0, 6000);
                x.deliver(7);
                x.move(1, 6000);
            }
            Due.put(x, "y", "");
            Due.put(x, "z", "");
            x.encode(0);
            String what = "COUNT = " + count;
            DUE.is(what + ": two above it", x.deliver(0), 0);
            x.move(0, 3);
            DUE.is(what + ": one above it", x.told(1, 3), 1);
            x.move(0, 3);
            DUE.is(what + ": come", x.told(1, 3), 0);
            DUE.is(what, x.decoded(0, 0, 0, 0), 'y');
            DUE.is(what, x.decoded(0, 0, 1, 0), 'z');
            x.move(1, 6000);
            Due.put(x, "y", "");
            x.encode(1);
            DUE.is(what + ": the oldest", x.deliver(1), 1);
            DUE.is(what + ": the oldest", x.decoded(1, 0, 0, 0), 'y');
        }
    }
}
