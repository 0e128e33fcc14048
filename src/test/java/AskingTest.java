/**
 * Promises 8 to 13: every boundary of what can be asked, in a state in which each of the numbers is
 * another one; and asking, answered or not, leaves all as it was.
 */
public final class AskingTest {
    private static final Due DUE = new Due();
    private static final int[] FAR = {Integer.MIN_VALUE, Integer.MIN_VALUE + 1, Integer.MIN_VALUE + 2, -2, 256,
        Integer.MAX_VALUE - 1, Integer.MAX_VALUE};

    public static void main(String[] args) {
        waitingOnEveryWire();
        waitingWhenEmpty();
        lookAtEveryByte();
        toldOfEveryEnd();
        toldOfOthers();
        entriesOfBothEnds();
        entriesThatLookLikeNone();
        sectionsOfEveryStream();
        decodedFields();
        decodedOfOthers();
        DUE.done();
    }

    /**
     * Tables of 102: entries 0 .. 3 at the encoder, 0 is gone there; 0 .. 2 at the decoder, and a byte of
     * the next. Stream 0: two decoded; 1: two decoded, two wait, one lies there; 2: one decoded, one waits;
     * 3: two lie there; 6: given up.
     */
    private static Run state() {
        Run run = new Run(102, 2);
        run.put("q", "v").encode(0).move(0, 4).deliver(0).move(1, 1);
        run.putSensitive("zz", "w").put("a", "").encode(0).deliver(0).encode(1).deliver(1);
        run.put("r", "v").encode(1).put("s", "v").encode(2).move(0, 8).increment();
        run.cancel(6).put("t", "v").encode(1).deliver(1).deliver(1).encode(1);
        run.put("t", "v").encode(2).deliver(2).deliver(2).put("r", "v").put("a", "").encode(1);
        return run.put("b", "1").encode(3).encode(3).deliver(1).move(0, 1);
    }

    private static void asks(String what, Run.Call call, long want) {
        state().answersWithoutChange(DUE, what, call, want);
    }

    /** Promise 8: wires 0 and 1, 2 + stream; -1 and 10 are none */
    private static void waitingOnEveryWire() {
        int[] want = {3, 4, -1, 4, -1, 3, -1, -1, -1, -1};
        for (int wire = 0; wire < 10; wire++) {
            int w = wire;
            asks("waiting(" + w + ")", x -> x.waiting(w), want[w]);
        }
        for (int wire : new int[] {-1, 10, 11}) {
            asks("waiting(" + wire + ")", x -> x.waiting(wire), -1);
        }
        for (int far : FAR) {
            asks("waiting(" + far + ")", x -> x.waiting(far), -1);
        }
    }

    private static void waitingWhenEmpty() {
        Run run = new Run(400, 1);
        DUE.is("wire 0 without a byte", run.answer(x -> x.waiting(0)), 0);
        DUE.is("wire 1 without a byte", run.answer(x -> x.waiting(1)), 0);
        for (int stream = 0; stream < 8; stream++) {
            int s = stream;
            DUE.is("no section", run.answer(x -> x.waiting(2 + s)), -1);
            Run one = run.copy().encode(s).put("a", "").encode(s);
            DUE.is("the first", one.answer(x -> x.waiting(2 + s)), 2);
            DUE.is("the next", one.deliver(s).answer(x -> x.waiting(2 + s)), 3);
            DUE.is("none any more", one.deliver(s).answer(x -> x.waiting(2 + s)), -1);
            DUE.is("given up", run.copy().encode(s).cancel(s).answer(x -> x.waiting(2 + s)), -1);
        }
    }

    /** Promise 9: bytes 0 and the last one; -1 and the one behind the last are none */
    private static void lookAtEveryByte() {
        int[][] want = {{'t', 1, 'v'}, {2, 70, 129, 130}, {}, {3, 2, 130, 192}, {}, {0, 4, 193}, {}, {}, {}, {}};
        for (int wire = 0; wire < 10; wire++) {
            for (int byteAt = -1; byteAt <= want[wire].length; byteAt++) {
                int w = wire;
                int i = byteAt;
                int due = i < 0 || i == want[w].length ? -1 : want[w][i];
                asks("look(" + w + ", " + i + ")", x -> x.look(w, i), due);
            }
        }
        for (int far : FAR) {
            asks("look(" + far + ", 0)", x -> x.look(far, 0), -1);
            for (int wire : new int[] {0, 1, 3}) {
                asks("look(" + wire + ", " + far + ")", x -> x.look(wire, far), -1);
            }
        }
        asks("look(-1, 0)", x -> x.look(-1, 0), -1);
        asks("look(10, 0)", x -> x.look(10, 0), -1);
    }

    /** Promise 10: encoder 0 .. 5, decoder 0 .. 4 */
    private static void toldOfEveryEnd() {
        int[][] want = {{4, 3, 102, 1, 5, 2, -1}, {3, 3, 102, 3, 2, -1, -1}};
        for (int end = 0; end < 2; end++) {
            for (int what = -1; what < 7; what++) {
                int e = end;
                int w = what;
                asks("told(" + e + ", " + w + ")", x -> x.told(e, w), w < 0 ? -1 : want[e][w]);
            }
        }
    }

    private static void toldOfOthers() {
        for (int end : new int[] {-1, 2, 3}) {
            for (int what = -1; what < 7; what++) {
                int w = what;
                asks("told(" + end + ", " + w + ")", x -> x.told(end, w), -1);
            }
        }
        for (int far : FAR) {
            asks("told(" + far + ", 0)", x -> x.told(far, 0), -1);
            asks("told(0, " + far + ")", x -> x.told(0, far), -1);
            asks("told(1, " + far + ")", x -> x.told(1, far), -1);
        }
    }

    /** Promise 11: "none such (any more)": the oldest and the newest, and one behind each */
    private static void entriesOfBothEnds() {
        String[] names = {" rst", "qrs "};
        for (int end = 0; end < 2; end++) {
            for (int entry = -1; entry <= 4; entry++) {
                int e = end;
                int j = entry;
                boolean there = j >= 0 && j < 4 && names[e].charAt(j) != ' ';
                asks("entry(" + e + ", " + j + ", 0)", x -> x.entry(e, j, 0), there ? names[e].charAt(j) : -1);
                asks("entry(" + e + ", " + j + ", 1)", x -> x.entry(e, j, 1), there ? 'v' : -1);
                asks("entry(" + e + ", " + j + ", -1)", x -> x.entry(e, j, -1), -1);
                asks("entry(" + e + ", " + j + ", 2)", x -> x.entry(e, j, 2), -1);
            }
        }
        for (int far : FAR) {
            asks("entry(" + far + ", 1, 0)", x -> x.entry(far, 1, 0), -1);
            asks("entry(0, " + far + ", 0)", x -> x.entry(0, far, 0), -1);
            asks("entry(1, " + far + ", 1)", x -> x.entry(1, far, 1), -1);
            asks("entry(0, 1, " + far + ")", x -> x.entry(0, 1, far), -1);
        }
        asks("entry(-1, 1, 0)", x -> x.entry(-1, 1, 0), -1);
        asks("entry(2, 1, 0)", x -> x.entry(2, 1, 0), -1);
    }

    /** A value of no byte is 0; eight bytes 255 are -1 as a long. */
    private static void entriesThatLookLikeNone() {
        Run run = new Run(400, 1).put("q", "").then(x -> x.field(-1L, -1L, false)).encode(0).move(0, 6000).deliver(0);
        for (int end = 0; end < 2; end++) {
            int e = end;
            DUE.is("no value", run.answer(x -> x.entry(e, 0, 1)), 0);
            DUE.is("name of eight 255", run.answer(x -> x.entry(e, 1, 0)), -1L);
            DUE.is("value of eight 255", run.answer(x -> x.entry(e, 1, 1)), -1L);
            DUE.is("they are there", run.answer(x -> x.told(e, 1)), 2);
        }
        DUE.is("no value", run.answer(x -> x.decoded(0, 0, 0, 1)), 0);
        DUE.is("eight 255", run.answer(x -> x.decoded(0, 0, 1, 1)), -1L);
    }

    /** Promise 12: streams 0 .. 7; -1 and 8 are none */
    private static void sectionsOfEveryStream() {
        int[] want = {2, 2, 1, 0, 0, 0, 0, 0};
        for (int stream = 0; stream < 8; stream++) {
            int s = stream;
            asks("sections(" + s + ")", x -> x.sections(s), want[s]);
        }
        for (int stream : new int[] {-1, 8, 9}) {
            asks("sections(" + stream + ")", x -> x.sections(stream), -1);
        }
        for (int far : FAR) {
            asks("sections(" + far + ")", x -> x.sections(far), -1);
        }
        Run run = new Run(400, 1).encode(7).deliver(7).encode(7).cancel(7);
        DUE.is("given up: those decoded before stay", run.answer(x -> x.sections(7)), 1);
    }

    /** Promise 13: the first and the last section, field and what, and one behind each */
    private static void decodedFields() {
        long[][][] want = {{{'q', 'v', 0}}, {{Due.text("zz"), 'w', 1}, {'a', 0, 0}}};
        for (int section = -1; section <= 2; section++) {
            for (int field = -1; field <= 2; field++) {
                for (int what = -1; what <= 3; what++) {
                    int k = section;
                    int f = field;
                    int w = what;
                    boolean there = k >= 0 && k < 2 && f >= 0 && f < want[k].length && w >= 0 && w < 3;
                    asks("decoded(0, " + k + ", " + f + ", " + w + ")", x -> x.decoded(0, k, f, w),
                            there ? want[k][f][w] : -1);
                }
            }
        }
    }

    private static void decodedOfOthers() {
        for (int stream : new int[] {-1, 8, 9}) {
            asks("decoded(" + stream + ", 0, 0, 0)", x -> x.decoded(stream, 0, 0, 0), -1);
        }
        for (int stream = 3; stream < 8; stream++) {
            int s = stream;
            asks("nothing decoded of " + s, x -> x.decoded(s, 0, 0, 0), -1);
        }
        asks("a section without fields", x -> x.decoded(1, 0, 0, 0), -1);
        for (int far : FAR) {
            asks("decoded(" + far + ", 0, 0, 0)", x -> x.decoded(far, 0, 0, 0), -1);
            asks("decoded(0, " + far + ", 0, 0)", x -> x.decoded(0, far, 0, 0), -1);
            asks("decoded(0, 0, " + far + ", 0)", x -> x.decoded(0, 0, far, 0), -1);
            asks("decoded(0, 0, 0, " + far + ")", x -> x.decoded(0, 0, 0, far), -1);
        }
        Run run = new Run(400, 1).put("a", "");
        for (int i = 0; i < 11; i++) {
            run.put("b", "1");
        }
        run.encode(4).deliver(4);
        DUE.is("the twelfth field", run.answer(x -> x.decoded(4, 0, 11, 0)), 'b');
        DUE.is("a thirteenth", run.answer(x -> x.decoded(4, 0, 12, 0)), -1);
        DUE.is("given up: it stays", run.cancel(4).answer(x -> x.decoded(4, 0, 0, 0)), 'a');
    }
}
