/**
 * Terms: NUMBER and TEXT, below m, at m and above it, wherever a number can come so far: B in 7 bits
 * and, in 3 bits, a name's length and an entry from B on. All others stay below their m.
 */
public final class NumberTermsTest {
    private static final Due DUE = new Due();

    public static void main(String[] args) {
        baseInSevenBits();
        entryInThreeBits();
        lengthInThreeBits();
        entryInFourBits();
        entryBelowInFourAndSixBits();
        lengthsOfInstructions();
        entriesThatCameInSixBits();
        streamsInSevenAndSixBits();
        DUE.done();
    }

    /** An object whose COUNT is this at both ends; no section refers to anything. */
    private static FieldPack grown(int count) {
        FieldPack x = new FieldPack(400, 0);
        for (int i = 1; i <= count; i++) {
            // Names come again only when those before them are long gone.
            x.field('i' + i % 99, 0, false);
            if (i % 12 == 0 || i == count) {
                x.encode(i / 12 % 7);
                x.move(0, 6000);
                x.increment();
                x.move(1, 6000);
            }
        }
        DUE.told("grown", x, 0, count, Math.min(12, count), 33 * Math.min(12, count), count, 0, 0);
        return x;
    }

    /** "v, if below m", "otherwise m, then bytes of 7 bits", "128 added to all but the last one" */
    private static void baseInSevenBits() {
        int[][] cases = {{0, 0}, {1, 1}, {125, 125}, {126, 126}, {127, 127, 0}, {128, 127, 1}, {253, 127, 126},
            {254, 127, 127}, {255, 127, 128, 1}, {256, 127, 129, 1}, {300, 127, 173, 1}};
        for (int[] c : cases) {
            FieldPack x = grown(c[0]);
            Due.put(x, "b", "1");
            int[] want = new int[c.length + 1];
            System.arraycopy(c, 1, want, 1, c.length - 1);
            want[c.length] = 193;
            DUE.is("B = " + c[0] + ": encode", x.encode(7), want.length);
            DUE.bytes("B = " + c[0], x, 9, want);
            DUE.is("B = " + c[0] + ": deliver", x.deliver(7), 1);
            DUE.is("B = " + c[0] + ": name", x.decoded(7, 0, 0, 0), 'b');
            DUE.is("B = " + c[0] + ": value", x.decoded(7, 0, 0, 1), '1');
            DUE.is("B = " + c[0] + ": no second field", x.decoded(7, 0, 1, 0), -1);
        }
    }

    /** "0 0 0 0 s NUMBER ( 3, j - B )": 6, 7 and 8 are below m, m and above it. */
    private static void entryInThreeBits() {
        for (int d = 0; d < 11; d++) {
            entryInThreeBits(d, true);
            entryInThreeBits(d, false);
        }
    }

    private static void entryInThreeBits(int d, boolean sensitive) {
        // The table is full with entries that are BUSY, so none is inserted for the last field.
        FieldPack x = new FieldPack(33 * (d + 1), 1);
        int[] want = new int[2 + d + 1 + (d < 7 ? 1 : 2) + 2];
        want[0] = 2 + d;
        want[1] = 128 + d;
        for (int j = 0; j <= d; j++) {
            x.field('i' + j, 0, false);
            want[2 + j] = 16 + j;
        }
        want[3 + d] = (sensitive ? 8 : 0) + Math.min(d, 7);
        if (d >= 7) {
            want[4 + d] = d - 7;
        }
        want[want.length - 2] = 1;
        want[want.length - 1] = 'v';
        x.field('i' + d, 'v', sensitive);
        x.encode(0);
        String what = "name of entry B + " + d;
        DUE.bytes(what, x, 2, want);
        x.move(0, 6000);
        DUE.is(what + ": deliver", x.deliver(0), 1);
        DUE.is(what, x.decoded(0, 0, d + 1, 0), 'i' + d);
        DUE.is(what + ": value", x.decoded(0, 0, d + 1, 1), 'v');
        DUE.is(what + ": sensitive", x.decoded(0, 0, d + 1, 2), sensitive ? 1 : 0);
        DUE.is(what + ": no field behind it", x.decoded(0, 0, d + 2, 0), -1);
    }

    /** "0 0 1 s 0 TEXT ( 3, name )": 6, 7 and 8 bytes */
    private static void lengthInThreeBits() {
        int[][] fronts = {{33}, {34}, {35}, {36}, {37}, {38}, {39, 0}, {39, 1}};
        for (int n = 1; n <= 8; n++) {
            for (int s = 0; s < 2; s++) {
                String name = "zyxwvuts".substring(0, n);
                FieldPack x = new FieldPack(0, 0);
                x.field(Due.text(name), 'v', s == 1);
                int[] front = fronts[n - 1];
                int[] want = new int[2 + front.length + n + 2];
                System.arraycopy(front, 0, want, 2, front.length);
                want[2] += 16 * s;
                for (int i = 0; i < n; i++) {
                    want[2 + front.length + i] = name.charAt(i);
                }
                want[want.length - 2] = 1;
                want[want.length - 1] = 'v';
                x.encode(0);
                DUE.bytes(name, x, 2, want);
                x.deliver(0);
                DUE.is(name, x.decoded(0, 0, 0, 0), Due.text(name));
                DUE.is(name + ": value", x.decoded(0, 0, 0, 1), 'v');
                DUE.is(name + ": sensitive", x.decoded(0, 0, 0, 2), s);
            }
        }
    }

    /** "0 0 0 1 NUMBER ( 4, j - B )" up to the twelfth field of a section, "1 NUMBER ( 7, R - B - 1 )" */
    private static void entryInFourBits() {
        FieldPack x = new FieldPack(400, 1);
        for (int j = 0; j < 12; j++) {
            x.field('i' + j, 0, false);
        }
        x.encode(0);
        DUE.bytes("twelve from B on", x, 2, 13, 139, 16, 17, 18, 19, 20, 21, 22, 23, 24, 25, 26, 27);
        x.move(0, 6000);
        x.deliver(0);
        for (int j = 0; j < 12; j++) {
            DUE.is("field " + j, x.decoded(0, 0, j, 0), 'i' + j);
        }
    }

    /** "1 0 NUMBER ( 6, B - 1 - j )" and "0 1 s 0 NUMBER ( 4, B - 1 - j )" from the newest to the oldest */
    private static void entryBelowInFourAndSixBits() {
        for (int j = 0; j < 12; j++) {
            entryBelow(j, true);
            entryBelow(j, false);
        }
    }

    private static void entryBelow(int j, boolean sensitive) {
        FieldPack x = grown(12);
        x.field('i' + 1 + j, 0, false);
        // The oldest entry is BUSY by this one, so none is inserted for the next.
        x.field('i' + 1, 0, false);
        x.field('i' + 1 + j, 'v', sensitive);
        x.encode(7);
        String what = "entry " + j;
        DUE.bytes(what, x, 9, 2 + j, 11 - j, 128 + 11 - j, 139, (sensitive ? 96 : 64) + 11 - j, 1, 'v');
        x.deliver(7);
        DUE.is(what, x.decoded(7, 0, 0, 0), 'i' + 1 + j);
        DUE.is(what + ": no value", x.decoded(7, 0, 0, 1), 0);
        DUE.is(what + ": not sensitive", x.decoded(7, 0, 0, 2), 0);
        DUE.is("name of " + what, x.decoded(7, 0, 2, 0), 'i' + 1 + j);
        DUE.is("its value", x.decoded(7, 0, 2, 1), 'v');
        DUE.is("sensitive", x.decoded(7, 0, 2, 2), sensitive ? 1 : 0);
    }

    /** "0 1 0 TEXT ( 5, name ), TEXT ( 7, value )": none and the longest of each */
    private static void lengthsOfInstructions() {
        FieldPack x = new FieldPack(400, 0);
        Due.put(x, "z", "");
        Due.put(x, "zyxwvuts", "abcdefgh");
        x.encode(0);
        DUE.bytes("instructions", x, 0, 65, 'z', 0,
                72, 'z', 'y', 'x', 'w', 'v', 'u', 't', 's', 8, 'a', 'b', 'c', 'd', 'e', 'f', 'g', 'h');
    }

    /** "0 0 NUMBER ( 6, n )": one to twelve, for entries that have not been told stay in the table */
    private static void entriesThatCameInSixBits() {
        for (int n = 1; n <= 12; n++) {
            FieldPack x = new FieldPack(400, 0);
            for (int j = 0; j < n; j++) {
                x.field('i' + j, 0, false);
            }
            x.encode(0);
            x.move(0, 6000);
            DUE.is("increment()", x.increment(), n);
            DUE.bytes(n + " have come", x, 1, n);
            x.move(1, 1);
            DUE.is("K", x.told(0, 3), n);
        }
    }

    /** "1 NUMBER ( 7, stream )", "0 1 NUMBER ( 6, stream )" */
    private static void streamsInSevenAndSixBits() {
        for (int s = 0; s < 8; s++) {
            FieldPack x = new FieldPack(400, 1);
            Due.put(x, "q", "v");
            x.encode(s);
            x.move(0, 6000);
            x.deliver(s);
            x.cancel(s);
            DUE.bytes("stream " + s, x, 1, 128 + s, 64 + s);
            x.move(1, 1);
            DUE.told("acknowledged", x, 0, 1, 1, 34, 1, 0, 0);
        }
    }
}
