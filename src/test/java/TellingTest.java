/** Promises 8 to 13: waiting, look, told, entry, sections, decoded. */
public final class TellingTest {
    private static final Due DUE = new Due();
    private static final int[] ODD = {-1, -2, 99, Integer.MIN_VALUE, Integer.MIN_VALUE + 1, Integer.MAX_VALUE};

    public static void main(String[] args) {
        waitingAndLook();
        told();
        entry();
        sectionsAndDecoded();
        everyKindOfLine();
        DUE.done();
    }

    /** Stream 7: a section decoded and two on the wire; four bytes on wire 0, one on wire 1. */
    private static FieldPack busyOne() {
        FieldPack x = new FieldPack(400, 1);
        Due.put(x, "q", "v");
        Due.putSensitive(x, "r", "");
        x.encode(7);
        x.move(0, 100);
        x.deliver(7);
        Due.put(x, "s", "v");
        x.encode(7);
        x.encode(7);
        return x;
    }

    private static void waitingAndLook() {
        FieldPack x = busyOne();
        DUE.bytes("wire 0", x, 0, 65, 's', 1, 'v');
        DUE.bytes("wire 1", x, 1, 135);
        DUE.bytes("stream 7", x, 9, 3, 128, 16);
        for (int wire = 2; wire < 9; wire++) {
            DUE.is("waiting(" + wire + ")", x.waiting(wire), -1);
            DUE.is("look(" + wire + ", 0)", x.look(wire, 0), -1);
        }
        DUE.is("waiting(10)", x.waiting(10), -1);
        DUE.is("look(10, 0)", x.look(10, 0), -1);
        for (int odd : ODD) {
            DUE.is("waiting(" + odd + ")", x.waiting(odd), -1);
            DUE.is("look(" + odd + ", 0)", x.look(odd, 0), -1);
            for (int wire : new int[] {0, 1, 9}) {
                DUE.is("look(" + wire + ", " + odd + ")", x.look(wire, odd), -1);
            }
        }
        x.move(0, 1);
        DUE.bytes("the rest of wire 0", x, 0, 's', 1, 'v');
        x.deliver(7);
        DUE.bytes("the next of stream 7", x, 9, 0, 2);
    }

    private static void told() {
        FieldPack x = busyOne();
        DUE.told("encoder", x, 0, 2, 2, 68, 0, 2, 1, -1);
        DUE.told("decoder", x, 1, 1, 1, 34, 0, 0, -1);
        x.deliver(7);
        x.deliver(7);
        DUE.told("decoder", x, 1, 1, 1, 34, 2, 1, -1);
        for (int odd : ODD) {
            DUE.is("told(0, " + odd + ")", x.told(0, odd), -1);
            DUE.is("told(1, " + odd + ")", x.told(1, odd), -1);
            DUE.is("told(" + odd + ", 0)", x.told(odd, 0), -1);
        }
        DUE.is("told(2, 0)", x.told(2, 0), -1);
        x.move(1, 1);
        DUE.told("encoder", x, 0, 2, 2, 68, 1, 1, 1);
    }

    private static void entry() {
        FieldPack x = busyOne();
        DUE.is("entry(0, 0, 0)", x.entry(0, 0, 0), 'q');
        DUE.is("entry(0, 0, 1)", x.entry(0, 0, 1), 'v');
        DUE.is("entry(0, 1, 0)", x.entry(0, 1, 0), 's');
        DUE.is("entry(0, 2, 0)", x.entry(0, 2, 0), -1);
        DUE.is("entry(1, 0, 0)", x.entry(1, 0, 0), 'q');
        DUE.is("entry(1, 1, 0)", x.entry(1, 1, 0), -1);
        DUE.is("entry(2, 0, 0)", x.entry(2, 0, 0), -1);
        DUE.is("entry(0, 0, 2)", x.entry(0, 0, 2), -1);
        for (int odd : ODD) {
            DUE.is("entry(" + odd + ", 0, 0)", x.entry(odd, 0, 0), -1);
            DUE.is("entry(0, " + odd + ", 0)", x.entry(0, odd, 0), -1);
            DUE.is("entry(0, 0, " + odd + ")", x.entry(0, 0, odd), -1);
        }
        oldEntriesGo();
    }

    private static void oldEntriesGo() {
        FieldPack x = new FieldPack(34, 1);
        for (int i = 0; i < 20; i++) {
            x.field('i' + i, 'v', false);
            x.encode(0);
            x.move(0, 100);
            x.deliver(0);
            x.move(1, 100);
        }
        for (int end = 0; end < 2; end++) {
            DUE.is("the one that is there", x.entry(end, 19, 0), 'i' + 19);
            DUE.is("one in the same slot before it", x.entry(end, 3, 0), -1);
            DUE.is("the one before it", x.entry(end, 18, 0), -1);
            DUE.is("none behind it", x.entry(end, 20, 0), -1);
        }
    }

    private static void sectionsAndDecoded() {
        FieldPack x = busyOne();
        DUE.is("sections(7)", x.sections(7), 1);
        DUE.is("sections(6)", x.sections(6), 0);
        DUE.is("sections(8)", x.sections(8), -1);
        long[][] fields = {{'q', 'v', 0}, {'r', 0, 1}};
        for (int f = 0; f < 2; f++) {
            for (int what = 0; what < 3; what++) {
                DUE.is("decoded(7, 0, " + f + ", " + what + ")", x.decoded(7, 0, f, what), fields[f][what]);
            }
            DUE.is("decoded(7, 0, " + f + ", 3)", x.decoded(7, 0, f, 3), -1);
        }
        DUE.is("a third field", x.decoded(7, 0, 2, 0), -1);
        DUE.is("a second section", x.decoded(7, 1, 0, 0), -1);
        x.move(0, 100);
        x.deliver(7);
        x.deliver(7);
        DUE.is("sections(7)", x.sections(7), 3);
        DUE.is("of the second section", x.decoded(7, 1, 0, 0), 's');
        DUE.is("the third has no field", x.decoded(7, 2, 0, 0), -1);
        for (int odd : ODD) {
            DUE.is("sections(" + odd + ")", x.sections(odd), -1);
            DUE.is("decoded(" + odd + ", 0, 0, 0)", x.decoded(odd, 0, 0, 0), -1);
            DUE.is("decoded(7, " + odd + ", 0, 0)", x.decoded(7, odd, 0, 0), -1);
            DUE.is("decoded(7, 0, " + odd + ", 0)", x.decoded(7, 0, odd, 0), -1);
            DUE.is("decoded(7, 0, 0, " + odd + ")", x.decoded(7, 0, 0, odd), -1);
        }
    }

    private static void everyKindOfLine() {
        FieldPack x = new FieldPack(400, 1);
        Due.put(x, "q", "v");
        x.encode(0);
        x.move(0, 100);
        x.deliver(0);
        long[][] fields = {
            {'b', '1', 0},
            {'q', 'v', 0},
            {'r', 'v', 0},
            {'c', 'w', 1},
            {'q', 'w', 1},
            {'r', 'w', 1},
            {'s', 'w', 1},
            {'c', Due.text("longlong"), 0},
        };
        for (long[] f : fields) {
            x.field(f[0], f[1], f[2] == 1);
        }
        x.encode(0);
        DUE.bytes("lines", x, 2, 4, 129, 193, 128, 16, 114, 1, 'w', 96, 1, 'w', 8, 1, 'w', 49, 's', 1, 'w', 17);
        x.move(0, 100);
        DUE.is("deliver(0)", x.deliver(0), 1);
        for (int f = 0; f < fields.length; f++) {
            for (int what = 0; what < 3; what++) {
                DUE.is("decoded(0, 1, " + f + ", " + what + ")", x.decoded(0, 1, f, what), fields[f][what]);
            }
        }
        notRiskedLines();
    }

    private static void notRiskedLines() {
        FieldPack x = new FieldPack(400, 0);
        Due.put(x, "h", "w");
        Due.put(x, "s", "");
        x.encode(3);
        DUE.is("deliver(3)", x.deliver(3), 1);
        long[][] fields = {{'h', 'w', 0}, {'s', 0, 0}};
        for (int f = 0; f < fields.length; f++) {
            for (int what = 0; what < 3; what++) {
                DUE.is("decoded(3, 0, " + f + ", " + what + ")", x.decoded(3, 0, f, what), fields[f][what]);
            }
        }
    }
}
