/** Terms: a SECTION: how R and B are told, and its LINES on both sides of B. */
public final class SectionTermsTest {
    private static final Due DUE = new Due();

    public static void main(String[] args) {
        emptySection();
        greatestEntryCounts();
        requiredWrapsRound();
        baseAgainstRequired();
        entriesOnBothSidesOfTheBase();
        namesOnBothSidesOfTheBase();
        sensitiveBits();
        DUE.done();
    }

    /** Inserts a field that nothing refers to, and the encoder hears that it has come. */
    private static void plant(FieldPack x, String name, String value) {
        Due.put(x, name, value);
        x.encode(7);
        x.deliver(7);
        x.move(0, 6000);
        x.increment();
        x.move(1, 6000);
    }

    /** Entries q and r, both known; no stream may risk one that is not. */
    private static FieldPack twoKnown() {
        FieldPack x = new FieldPack(400, 0);
        plant(x, "q", "v");
        plant(x, "r", "v");
        return x;
    }

    /** "R is 0, or ..": a section without fields, or without one that refers to the table */
    private static void emptySection() {
        FieldPack x = new FieldPack(400, 1);
        DUE.is("encode(0)", x.encode(0), 2);
        DUE.bytes("no field", x, 2, 0, 0);
        DUE.is("deliver(0)", x.deliver(0), 1);
        DUE.is("sections(0)", x.sections(0), 1);
        DUE.is("no field came", x.decoded(0, 0, 0, 0), -1);
        DUE.bytes("not acknowledged", x, 1);
        DUE.told("not open", x, 0, 0, 0, 0, 0, 0, 0);
        Due.putSensitive(x, "q", "v");
        x.encode(0);
        DUE.bytes("refers to nothing", x, 2, 0, 0, 49, 'q', 1, 'v');
        x.deliver(0);
        DUE.bytes("not acknowledged", x, 1);
        x = twoKnown();
        x.encode(0);
        DUE.bytes("B is told though R is 0", x, 2, 0, 2);
    }

    /** "one above the greatest entry that it refers to", in whatever order it does */
    private static void greatestEntryCounts() {
        FieldPack x = twoKnown();
        Due.put(x, "r", "v");
        Due.put(x, "q", "v");
        x.encode(0);
        DUE.bytes("the greatest first", x, 2, 3, 0, 128, 129);
        Due.put(x, "q", "v");
        Due.put(x, "r", "v");
        x.encode(1);
        DUE.bytes("the greatest last", x, 3, 3, 0, 129, 128);
        Due.put(x, "q", "v");
        Due.put(x, "q", "v");
        x.encode(2);
        DUE.bytes("the least alone", x, 4, 2, 1, 129, 129);
        Due.putSensitive(x, "r", "w");
        Due.put(x, "q", "v");
        x.encode(3);
        DUE.bytes("a name counts, too", x, 5, 3, 0, 96, 1, 'w', 129);
    }

    /** "NUMBER ( 8, R modulo ( 2 * (C / 32) ) + 1 )", with C on both sides of a multiple of 32 */
    private static void requiredWrapsRound() {
        codes(34, 2, 1, 2, 1, 2);
        codes(63, 2, 1, 2, 1, 2);
        codes(64, 2, 3, 4, 1, 2, 3, 4, 1, 2);
        codes(65, 2, 3, 4, 1, 2, 3, 4, 1, 2);
        codes(95, 2, 3, 4, 1, 2, 3, 4, 1, 2);
        codes(96, 2, 3, 4, 5, 6, 1, 2, 3, 4, 5, 6, 1, 2);
        codes(383, 2, 3, 4, 5, 6, 7, 8, 9, 10, 11, 12, 13, 14, 15, 16, 17, 18, 19, 20, 21, 22, 1, 2);
        codes(384, 2, 3, 4, 5, 6, 7, 8, 9, 10, 11, 12, 13, 14, 15, 16, 17, 18, 19, 20, 21, 22, 23, 24, 1, 2);
        codes(400, 2, 3, 4, 5, 6, 7, 8, 9, 10, 11, 12, 13, 14, 15, 16, 17, 18, 19, 20, 21, 22, 23, 24, 1, 2);
    }

    /** What R = 1, 2, .. are told as; each section comes before what it refers to, the next one after it. */
    private static void codes(int capacity, int... codes) {
        FieldPack x = new FieldPack(capacity, 1);
        for (int i = 0; i < codes.length; i++) {
            x.field('q', 'A' + i, false);
            x.encode(0);
            String what = "capacity " + capacity + ", R = " + (i + 1);
            DUE.bytes(what, x, 2, codes[i], 128, 16);
            if (i % 2 == 0) {
                DUE.is(what + ": waits", x.deliver(0), 0);
                x.move(0, 100);
            } else {
                x.move(0, 100);
                DUE.is(what + ": comes later", x.deliver(0), 1);
            }
            x.move(1, 100);
            DUE.is(what + ": value", x.decoded(0, i, 0, 1), 'A' + i);
        }
    }

    /** "0 NUMBER ( 7, B - R ) if B is at least R, otherwise 1 NUMBER ( 7, R - B - 1 )" */
    private static void baseAgainstRequired() {
        FieldPack x = new FieldPack(400, 1);
        plant(x, "q", "v");
        plant(x, "r", "v");
        Due.put(x, "q", "v");
        x.encode(0);
        DUE.bytes("B is one above R", x, 2, 2, 1, 129);
        Due.put(x, "r", "v");
        x.encode(1);
        DUE.bytes("B is R", x, 3, 3, 0, 128);
        Due.put(x, "s", "v");
        x.encode(2);
        DUE.bytes("B is one below R", x, 4, 4, 128, 16);
        Due.put(x, "t", "v");
        Due.put(x, "u", "v");
        x.encode(2);
        x.move(0, 6000);
        x.deliver(2);
        DUE.bytes("B is two below R", x, 4, 6, 129, 16, 17);
        for (int stream = 0; stream < 3; stream++) {
            DUE.is("deliver(" + stream + ")", x.deliver(stream), 1);
        }
        DUE.is("one above", x.decoded(0, 0, 0, 0), 'q');
        DUE.is("the same", x.decoded(1, 0, 0, 0), 'r');
        DUE.is("one below", x.decoded(2, 0, 0, 0), 's');
        DUE.is("two below", x.decoded(2, 1, 0, 0), 't');
        DUE.is("two below", x.decoded(2, 1, 1, 0), 'u');
    }

    /** "entry j below B", "entry j from B on": B - 1, B and B + 1 in one section */
    private static void entriesOnBothSidesOfTheBase() {
        FieldPack x = new FieldPack(400, 1);
        plant(x, "q", "v");
        plant(x, "r", "v");
        for (String name : new String[] {"q", "r", "s", "t", "s", "q"}) {
            Due.put(x, name, "v");
        }
        x.encode(0);
        DUE.bytes("B = 2, R = 4", x, 2, 5, 129, 129, 128, 16, 17, 16, 129);
        x.move(0, 6000);
        x.deliver(0);
        for (int f = 0; f < 6; f++) {
            DUE.is("field " + f, x.decoded(0, 0, f, 0), "qrstsq".charAt(f));
            DUE.is("value " + f, x.decoded(0, 0, f, 1), 'v');
        }
    }

    private static void namesOnBothSidesOfTheBase() {
        FieldPack x = new FieldPack(400, 1);
        plant(x, "q", "v");
        plant(x, "r", "v");
        Due.put(x, "s", "v");
        Due.put(x, "t", "v");
        for (String name : new String[] {"q", "r", "s", "t"}) {
            Due.putSensitive(x, name, "w");
        }
        x.encode(0);
        DUE.bytes("B = 2, R = 4", x, 2, 5, 129, 16, 17, 97, 1, 'w', 96, 1, 'w', 8, 1, 'w', 9, 1, 'w');
        x.move(0, 6000);
        x.deliver(0);
        for (int f = 2; f < 6; f++) {
            DUE.is("name " + f, x.decoded(0, 0, f, 0), "stqrst".charAt(f));
            DUE.is("value " + f, x.decoded(0, 0, f, 1), 'w');
            DUE.is("sensitive " + f, x.decoded(0, 0, f, 2), 1);
        }
    }

    /** "s is 1 when sensitive": each of the four lines that have it, once with and once without */
    private static void sensitiveBits() {
        FieldPack x = new FieldPack(34, 1);
        plant(x, "q", "v");
        Due.put(x, "q", "v");
        for (int s = 0; s < 2; s++) {
            x.field('a', 'w', s == 1);
            x.field('q', 'w', s == 1);
            x.field('r', 'w', s == 1);
        }
        x.encode(0);
        DUE.bytes("the table is full, its entry BUSY", x, 2, 2, 0, 128,
                80, 1, 'w', 64, 1, 'w', 33, 'r', 1, 'w', 112, 1, 'w', 96, 1, 'w', 49, 'r', 1, 'w');
        x.deliver(0);
        for (int f = 1; f < 7; f++) {
            DUE.is("name " + f, x.decoded(0, 0, f, 0), "qaqraqr".charAt(f));
            DUE.is("sensitive " + f, x.decoded(0, 0, f, 2), f > 3 ? 1 : 0);
        }
        x = new FieldPack(34, 1);
        Due.put(x, "q", "v");
        Due.put(x, "q", "w");
        Due.putSensitive(x, "q", "w");
        x.encode(0);
        DUE.bytes("name of an entry from B on", x, 2, 2, 128, 16, 0, 1, 'w', 8, 1, 'w');
        x.move(0, 6000);
        x.deliver(0);
        for (int f = 0; f < 3; f++) {
            DUE.is("name " + f, x.decoded(0, 0, f, 0), 'q');
            DUE.is("value " + f, x.decoded(0, 0, f, 1), "vww".charAt(f));
            DUE.is("sensitive " + f, x.decoded(0, 0, f, 2), f == 2 ? 1 : 0);
        }
    }
}
