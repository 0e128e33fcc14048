/**
 * Promises 2 to 7: every call that is refused, on the boundary and on both its sides; a refused call
 * leaves all as it was, now and in what follows.
 */
public final class RefusalsTest {
    private static final Due DUE = new Due();
    private static final int[] NO_STREAM = {-1, 8, 9, -8, Integer.MIN_VALUE, Integer.MAX_VALUE};

    public static void main(String[] args) {
        fieldWhenThereAreTwelve();
        fieldWithoutName();
        fieldWithAZeroByte();
        encodeForNoStream();
        encodeForOneGivenUp();
        encodeWhenEightLieThere();
        encodeWhenTwoHundredWereMade();
        encodeWhenWireZeroIsAsFullAsItGets();
        moveOnNoWire();
        moveOfTooFewOrTooMany();
        moveOfWhatIsThere();
        deliverWhenThereIsNone();
        deliverWhenEightWait();
        incrementWhenNoneHasCome();
        cancelOfNoStream();
        cancelOfOneGivenUp();
        cancelCounts();
        DUE.done();
    }

    /** Something of everything: on wires, waiting, open, decoded, in tables, and two fields to come. */
    private static Run busy() {
        Run run = new Run(100, 2);
        run.put("q", "v").encode(0).put("r", "v").encode(1).put("a", "").encode(3).deliver(3);
        run.move(0, 4).deliver(0).increment().deliver(1).move(0, 2);
        run.put("q", "v").encode(0).encode(1).deliver(1).put("q", "v").encode(2).cancel(4);
        return run.put("s", "v").putSensitive("q", "w");
    }

    private static Run.Call field(long name, long value) {
        return x -> x.field(name, value, false);
    }

    private static void refusesAndStays(Run run, String what, Run.Call call) {
        run.refuses(DUE, what, call);
    }

    /** "NONE when it has 12" */
    private static void fieldWhenThereAreTwelve() {
        Run run = new Run(400, 1);
        for (int i = 1; i <= 12; i++) {
            DUE.is("field " + i, run.answer(field('i' + i, 'v')), i);
            long name = 'i' + i;
            run.then(field(name, 'v'));
        }
        refusesAndStays(run, "a thirteenth", field('z', 'v'));
        refusesAndStays(run, "a thirteenth that is sensitive", x -> x.field('z', 'v', true));
        refusesAndStays(run, "a thirteenth that the fixed table has", field('a', 0));
        refusesAndStays(run, "a thirteenth that is there", field('i' + 1, 'v'));
        run.encode(0);
        DUE.is("the first of the next section", run.answer(field('z', 'v')), 1);
        run.encode(0);
        DUE.is("the first behind an empty one", run.answer(field('z', 'v')), 1);
    }

    /** "or name is 0" */
    private static void fieldWithoutName() {
        Run run = busy();
        refusesAndStays(run, "neither name nor value", field(0, 0));
        refusesAndStays(run, "no name", field(0, 'v'));
        refusesAndStays(run, "no name, but sensitive", x -> x.field(0, 'v', true));
        DUE.is("name 1", run.answer(field(1, 0)), 3);
        DUE.is("name -1", run.answer(field(-1, 0)), 3);
    }

    /** "or a byte behind the first one that is not 0 is 0 (of name or value)" */
    private static void fieldWithAZeroByte() {
        Run run = new Run(400, 1).put("q", "v");
        for (long fill : new long[] {0x0101010101010101L, 0x8080808080808080L, -1L}) {
            for (int length = 1; length <= 8; length++) {
                long whole = fill >>> 8 * (8 - length);
                DUE.is("name " + whole, run.answer(field(whole, 'v')), 2);
                DUE.is("value " + whole, run.answer(field('n', whole)), 2);
                for (int at = 0; at < length - 1; at++) {
                    long holed = whole & ~(255L << 8 * at);
                    DUE.is("name " + holed, run.answer(field(holed, 'v')), -1);
                    DUE.is("value " + holed, run.answer(field('n', holed)), -1);
                    DUE.is("both " + holed, run.answer(field(holed, holed)), -1);
                    DUE.is("none counted", run.copy().then(field(holed, 'v')).answer(field('n', 'v')), 2);
                }
            }
        }
        for (long holed : new long[] {0x100, 0x6100, 0x610061, 0x6161006161616161L, Long.MIN_VALUE, 0xFF00000000000000L}) {
            refusesAndStays(busy(), "name " + holed, field(holed, 'v'));
            refusesAndStays(busy(), "value " + holed, field('n', holed));
        }
        DUE.is("no value at all", run.answer(field('n', 0)), 2);
    }

    /** "NONE, changing nothing, when stream is not 0 .. 7" */
    private static void encodeForNoStream() {
        for (int stream : NO_STREAM) {
            refusesAndStays(busy(), "encode(" + stream + ")", x -> x.encode(stream));
        }
        for (int stream : new int[] {0, 7}) {
            DUE.is("encode(" + stream + ")", new Run(0, 0).answer(x -> x.encode(stream)), 2);
            DUE.is("its wire", new Run(0, 0).encode(stream).answer(x -> x.waiting(2 + stream)), 2);
        }
    }

    /** "or was given up" */
    private static void encodeForOneGivenUp() {
        for (int stream = 0; stream < 8; stream++) {
            int s = stream;
            Run run = new Run(400, 1).put("q", "v");
            DUE.is("before", run.answer(x -> x.encode(s)), 3);
            run.cancel(s);
            refusesAndStays(run, "given up: encode(" + s + ")", x -> x.encode(s));
            DUE.is("another stream", run.answer(x -> x.encode(s ^ 1)), 3);
            run.move(1, 1);
            refusesAndStays(run, "given up and heard: encode(" + s + ")", x -> x.encode(s));
        }
        refusesAndStays(busy(), "given up: encode(4)", x -> x.encode(4));
    }

    /** "or 8 sections lie there" */
    private static void encodeWhenEightLieThere() {
        Run run = new Run(400, 1);
        for (int i = 1; i <= 8; i++) {
            DUE.is("section " + i, run.answer(x -> x.encode(5)), 2);
            run.encode(5);
        }
        run.put("q", "v");
        refusesAndStays(run, "a ninth", x -> x.encode(5));
        DUE.is("on another wire", run.answer(x -> x.encode(4)), 3);
        DUE.is("one was delivered", run.copy().deliver(5).answer(x -> x.encode(5)), 3);
        run.deliver(5).encode(5);
        refusesAndStays(run, "a ninth again", x -> x.encode(5));

        Run waiting = new Run(400, 1);
        for (int i = 0; i < 8; i++) {
            waiting.put("q", "v").encode(2).deliver(2);
        }
        for (int i = 1; i <= 8; i++) {
            DUE.is("those that wait lie there no more: " + i, waiting.answer(x -> x.encode(2)), 2);
            waiting.encode(2);
        }
        refusesAndStays(waiting, "a ninth behind eight that wait", x -> x.encode(2));
    }

    /** "or 200 sections were made", of whatever stream and wherever they are */
    private static void encodeWhenTwoHundredWereMade() {
        Run run = new Run(400, 1).cancel(7);
        for (int i = 0; i < 199; i++) {
            run.encode(i % 7);
            if (i < 180) {
                run.deliver(i % 7);
            }
        }
        run.encode(8).encode(7).put("q", "v");
        DUE.is("the last that may be made", run.answer(x -> x.encode(3)), 3);
        run.encode(3).put("q", "v");
        for (int stream = 0; stream < 8; stream++) {
            int s = stream;
            DUE.is("one more: encode(" + s + ")", run.answer(x -> x.encode(s)), -1);
        }
        refusesAndStays(run, "one more", x -> x.encode(0));
        run.cancel(3);
        DUE.is("those given up were made", run.answer(x -> x.encode(0)), -1);
        run.encode(0);
        DUE.is("its field stays", run.answer(field('r', 'v')), 2);
    }

    /** "or more than 5000 bytes lie on wire 0": entries that are not known never leave, so it is never that many. */
    private static void encodeWhenWireZeroIsAsFullAsItGets() {
        Run run = new Run(400, 4);
        for (int i = 0; i < 12; i++) {
            long name = Due.text("eightby0") + i;
            run.then(field(name, -1));
        }
        run.encode(0);
        DUE.is("eight instructions", run.answer(x -> x.waiting(0)), 8 * 18);
        run.put("q", "v");
        DUE.is("not refused", run.answer(x -> x.encode(0)), 6);
    }

    /** "NONE when there is no such wire" */
    private static void moveOnNoWire() {
        for (int wire : new int[] {-1, 2, 3, 9, Integer.MIN_VALUE, Integer.MAX_VALUE}) {
            for (int n : new int[] {0, 1, 6000}) {
                refusesAndStays(busy(), "move(" + wire + ", " + n + ")", x -> x.move(wire, n));
            }
        }
        DUE.is("wire 0", busy().answer(x -> x.move(0, 1)), 1);
        DUE.is("wire 1", busy().answer(x -> x.move(1, 1)), 1);
    }

    /** "or n is not 0 .. 6000" */
    private static void moveOfTooFewOrTooMany() {
        for (int wire = 0; wire < 2; wire++) {
            int w = wire;
            for (int n : new int[] {-1, 6001, -6000, Integer.MIN_VALUE, Integer.MAX_VALUE}) {
                refusesAndStays(busy(), "move(" + w + ", " + n + ")", x -> x.move(w, n));
            }
            busy().answersWithoutChange(DUE, "move(" + w + ", 0)", x -> x.move(w, 0), 0);
            long there = busy().answer(x -> x.waiting(w));
            DUE.is("move(" + w + ", 5999)", busy().answer(x -> x.move(w, 5999)), there);
            DUE.is("move(" + w + ", 6000)", busy().answer(x -> x.move(w, 6000)), there);
        }
    }

    /** "how many (those that are there)": one fewer, as many, one more */
    private static void moveOfWhatIsThere() {
        for (int wire = 0; wire < 2; wire++) {
            int w = wire;
            int there = (int) busy().answer(x -> x.waiting(w));
            DUE.is("some lie on wire " + w, there > 1 ? 1 : 0, 1);
            for (int n = 0; n <= there + 1; n++) {
                int asked = n;
                int moved = Math.min(n, there);
                DUE.is("move(" + w + ", " + n + ")", busy().answer(x -> x.move(w, asked)), moved);
                Run after = busy().move(w, n);
                DUE.is("left behind it", after.answer(x -> x.waiting(w)), there - moved);
                DUE.is("the next of them", after.answer(x -> x.look(w, 0)), busy().answer(x -> x.look(w, moved)));
                Run single = busy();
                for (int i = 0; i < n; i++) {
                    single.move(w, 1);
                }
                DUE.is("the same as one by one", after.future().equals(single.future()) ? 1 : 0, 1);
            }
            Run none = busy().move(0, 6000).move(1, 6000);
            none.answersWithoutChange(DUE, "an empty wire", x -> x.move(w, 6000), 0);
        }
    }

    /** "NONE when there is none": no such stream, nothing on its wire, nothing any more */
    private static void deliverWhenThereIsNone() {
        for (int stream : NO_STREAM) {
            refusesAndStays(busy(), "deliver(" + stream + ")", x -> x.deliver(stream));
        }
        for (int stream = 3; stream < 8; stream++) {
            int s = stream;
            refusesAndStays(busy(), "nothing there: deliver(" + s + ")", x -> x.deliver(s));
        }
        for (int stream = 0; stream < 8; stream++) {
            int s = stream;
            Run run = new Run(0, 0).encode(s);
            DUE.is("deliver(" + s + ")", run.answer(x -> x.deliver(s)), 1);
            refusesAndStays(run.copy().deliver(s), "deliver(" + s + ") again", x -> x.deliver(s));
            refusesAndStays(run.copy().cancel(s), "given up: deliver(" + s + ")", x -> x.deliver(s));
        }
    }

    /** "or 8 of this stream wait" */
    private static void deliverWhenEightWait() {
        Run run = new Run(400, 1).put("q", "v").encode(6);
        for (int i = 2; i <= 8; i++) {
            run.deliver(6).encode(6);
        }
        DUE.is("seven wait", run.answer(x -> x.told(1, 3)), 7);
        DUE.is("an eighth", run.answer(x -> x.deliver(6)), 0);
        run.deliver(6).encode(6).put("a", "").encode(1);
        DUE.is("eight wait", run.answer(x -> x.told(1, 3)), 8);
        refusesAndStays(run, "a ninth", x -> x.deliver(6));
        DUE.is("it lies there", run.copy().deliver(6).answer(x -> x.waiting(8)), 2);
        DUE.is("another stream", run.answer(x -> x.deliver(1)), 1);
        run.move(0, 6000);
        DUE.is("none waits", run.answer(x -> x.told(1, 3)), 0);
        DUE.is("the ninth", run.answer(x -> x.deliver(6)), 1);
        DUE.is("nine were decoded", run.deliver(6).answer(x -> x.sections(6)), 9);
    }

    /** "0, telling nothing, when none" */
    private static void incrementWhenNoneHasCome() {
        new Run(400, 1).answersWithoutChange(DUE, "at first", FieldPack::increment, 0);
        Run run = new Run(400, 1).put("q", "v").encode(0);
        run.answersWithoutChange(DUE, "none has come", FieldPack::increment, 0);
        run.move(0, 3);
        run.answersWithoutChange(DUE, "not all of it", FieldPack::increment, 0);
        run.move(0, 1);
        DUE.is("it has come", run.answer(FieldPack::increment), 1);
        run.copy().increment().answersWithoutChange(DUE, "told by this", FieldPack::increment, 0);
        run.deliver(0);
        run.answersWithoutChange(DUE, "told by the section", FieldPack::increment, 0);
        run.put("r", "v").encode(0).move(0, 6000);
        DUE.is("one behind it", run.answer(FieldPack::increment), 1);
        DUE.is("told", run.increment().answer(x -> x.look(1, 1)), 1);
    }

    /** "NONE when there is no such stream" */
    private static void cancelOfNoStream() {
        for (int stream : NO_STREAM) {
            refusesAndStays(busy(), "cancel(" + stream + ")", x -> x.cancel(stream));
        }
        DUE.is("cancel(0)", new Run(0, 0).answer(x -> x.cancel(0)), 0);
        DUE.is("cancel(7)", new Run(0, 0).answer(x -> x.cancel(7)), 0);
    }

    /** "or it was given up before" */
    private static void cancelOfOneGivenUp() {
        refusesAndStays(busy(), "cancel(4) again", x -> x.cancel(4));
        for (int stream = 0; stream < 4; stream++) {
            int s = stream;
            DUE.is("cancel(" + s + ")", busy().answer(x -> x.cancel(s)), new int[] {1, 2, 1, 0}[s]);
            refusesAndStays(busy().cancel(s), "cancel(" + s + ") again", x -> x.cancel(s));
            refusesAndStays(busy().cancel(s).move(1, 6000), "cancel(" + s + ") when heard", x -> x.cancel(s));
        }
    }

    /** "how many sections were gone": none, one, and all that can be */
    private static void cancelCounts() {
        Run run = new Run(400, 1);
        for (int i = 0; i <= 16; i++) {
            DUE.is(i + " are there", run.answer(x -> x.cancel(2)), i);
            if (i < 8) {
                run.put("q", "v").encode(2).deliver(2);
            } else if (i < 16) {
                run.encode(2);
            }
        }
        run.cancel(2);
        DUE.is("none waits", run.answer(x -> x.told(1, 3)), 0);
        DUE.is("none lies there", run.answer(x -> x.waiting(4)), -1);
        DUE.is("told once", run.answer(x -> x.waiting(1)), 1);
        DUE.is("stream 2", run.answer(x -> x.look(1, 0)), 66);
        run.move(0, 6000);
        DUE.is("none of them is decoded", run.answer(x -> x.sections(2)), 0);
    }
}
