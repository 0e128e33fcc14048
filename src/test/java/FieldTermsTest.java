import java.util.Arrays;

/** Terms: what a FIELD is, its SIZE, and what THE FIXED TABLE has. */
public final class FieldTermsTest {
    private static final Due DUE = new Due();
    private static final int[] BYTES = {1, 127, 128, 255};

    public static void main(String[] args) {
        lengthsOfNameAndValue();
        bytesHighestFirst();
        sizeIsThirtyTwoAndTheBytes();
        fixedNamesBeginAndEnd();
        fixedValuesAreNoneOrOne();
        fixedNamesAreOneByte();
        sensitiveOrNotTheFixedTableHasIt();
        DUE.done();
    }

    private static long many(int b, int length) {
        long text = 0;
        for (int i = 0; i < length; i++) {
            text = text << 8 | b;
        }
        return text;
    }

    /** "NAME, 1 to 8 bytes, and a VALUE, 0 to 8 bytes" */
    private static void lengthsOfNameAndValue() {
        for (int b : BYTES) {
            for (int n = 1; n <= 8; n++) {
                for (int v = 0; v <= 8; v++) {
                    lengths(b, n, v);
                }
            }
        }
        FieldPack x = new FieldPack(400, 1);
        DUE.is("a name of no byte", x.field(0, 'v', false), -1);
    }

    private static void lengths(int b, int n, int v) {
        String what = n + " and " + v + " bytes " + b;
        FieldPack x = new FieldPack(400, 1);
        DUE.is(what + ": field", x.field(many(b, n), many(b, v), false), 1);
        x.encode(0);
        int[] instruction = new int[2 + n + v];
        Arrays.fill(instruction, b);
        instruction[0] = 64 + n;
        instruction[1 + n] = v;
        DUE.bytes(what, x, 0, instruction);
        x.move(0, 6000);
        x.deliver(0);
        for (int end = 0; end < 2; end++) {
            DUE.is(what + ": name at " + end, x.entry(end, 0, 0), many(b, n));
            DUE.is(what + ": value at " + end, x.entry(end, 0, 1), many(b, v));
            DUE.is(what + ": size at " + end, x.told(end, 2), 32 + n + v);
        }
        DUE.is(what + ": name", x.decoded(0, 0, 0, 0), many(b, n));
        DUE.is(what + ": value", x.decoded(0, 0, 0, 1), many(b, v));
    }

    /** "the bytes from the first one on that is not 0, highest first, are meant" */
    private static void bytesHighestFirst() {
        FieldPack x = new FieldPack(0, 0);
        x.field(0x0102030405060708L, 0x00000000FF800201L, false);
        x.encode(0);
        DUE.bytes("highest first", x, 2, 0, 0, 39, 1, 1, 2, 3, 4, 5, 6, 7, 8, 4, 255, 128, 2, 1);
        x.deliver(0);
        DUE.is("name", x.decoded(0, 0, 0, 0), 0x0102030405060708L);
        DUE.is("value", x.decoded(0, 0, 0, 1), 0xFF800201L);
    }

    /** "Its SIZE is 32 and the bytes of both": a capacity of this size holds it, one less does not. */
    private static void sizeIsThirtyTwoAndTheBytes() {
        for (int n = 1; n <= 8; n++) {
            for (int v = 0; v <= 8; v++) {
                for (int more = -1; more <= 1; more++) {
                    FieldPack x = new FieldPack(32 + n + v + more, 0);
                    x.field(many(200, n), many(201, v), false);
                    x.encode(0);
                    String what = n + " and " + v + " bytes, capacity " + more + " above";
                    DUE.is(what + ": COUNT", x.told(0, 0), more < 0 ? 0 : 1);
                    DUE.is(what + ": size", x.told(0, 2), more < 0 ? 0 : 32 + n + v);
                }
            }
        }
    }

    /** "has entries 0 .. 7: name the byte 97 + k": 96 and 105 are none of them. */
    private static void fixedNamesBeginAndEnd() {
        FieldPack x = new FieldPack(0, 0);
        for (int name : new int[] {96, 97, 104, 105}) {
            x.field(name, '0', false);
        }
        x.encode(0);
        DUE.bytes("names 96, 97, 104, 105", x, 2, 0, 0,
                33, 96, 1, '0', 80, 1, '0', 87, 1, '0', 33, 105, 1, '0');
        x = new FieldPack(400, 0);
        for (int name : new int[] {96, 97, 104, 105}) {
            x.field(name, '0', false);
        }
        x.encode(0);
        DUE.bytes("inserted", x, 0, 65, 96, 1, '0', 192, 1, '0', 199, 1, '0', 65, 105, 1, '0');
        x.move(0, 6000);
        for (int end = 0; end < 2; end++) {
            DUE.is("name 97 at " + end, x.entry(end, 1, 0), 97);
            DUE.is("name 104 at " + end, x.entry(end, 2, 0), 104);
        }
    }

    /** "value none for even k, the byte 49 for odd k" */
    private static void fixedValuesAreNoneOrOne() {
        for (int k = 0; k < 8; k++) {
            for (int value : new int[] {0, 48, 49, 50, 0x3131}) {
                fixedName(k, value, false);
                fixedName(k, value, true);
            }
        }
    }

    private static void fixedName(int k, int value, boolean sensitive) {
        FieldPack x = new FieldPack(0, 0);
        x.field(97 + k, value, sensitive);
        boolean has = value == (k % 2 == 0 ? 0 : 49);
        String what = "fixed " + k + " with " + value;
        DUE.is(what, x.encode(0), has ? 3 : value == 0 ? 4 : value < 256 ? 5 : 6);
        DUE.is(what + ": line", x.look(2, 2), (has ? 192 : sensitive ? 112 : 80) + k);
        DUE.is(what + ": deliver", x.deliver(0), 1);
        DUE.is(what + ": name", x.decoded(0, 0, 0, 0), 97 + k);
        DUE.is(what + ": value", x.decoded(0, 0, 0, 1), value);
        DUE.is(what + ": sensitive", x.decoded(0, 0, 0, 2), sensitive && !has ? 1 : 0);
    }

    private static void fixedNamesAreOneByte() {
        FieldPack x = new FieldPack(0, 0);
        x.field(0x6161, 0, false);
        x.field(0x0161, 0, false);
        x.field(0x0101010101010161L, 0, false);
        x.field(0xFFFFFFFFFFFFFF61L, 0, false);
        x.encode(0);
        DUE.bytes("names that end in 97", x, 2, 0, 0, 34, 0x61, 0x61, 0, 34, 1, 0x61, 0,
                39, 1, 1, 1, 1, 1, 1, 1, 1, 0x61, 0, 39, 1, 255, 255, 255, 255, 255, 255, 255, 0x61, 0);
    }

    /** "if the fixed table has it: that line", before it is asked whether it is sensitive */
    private static void sensitiveOrNotTheFixedTableHasIt() {
        FieldPack x = new FieldPack(400, 4);
        Due.putSensitive(x, "a", "");
        Due.put(x, "a", "");
        Due.putSensitive(x, "h", "1");
        Due.putSensitive(x, "h", "2");
        x.encode(0);
        DUE.bytes("lines", x, 2, 0, 0, 192, 192, 199, 119, 1, '2');
        DUE.bytes("nothing inserted", x, 0);
        x.deliver(0);
        for (int f = 0; f < 4; f++) {
            DUE.is("came as sensitive: " + f, x.decoded(0, 0, f, 2), f == 3 ? 1 : 0);
        }
    }
}
