/** Promises 6 and 7: increment and cancel. */
public final class BackTest {
    private static final Due DUE = new Due();

    public static void main(String[] args) {
        tellsWhatCame();
        acknowledgedSectionsTell();
        anOlderAcknowledgementTellsNothingNew();
        cancelTakesAll();
        cancelOfNothing();
        wrongCancels();
        cancelledAtTheEncoderLater();
        DUE.done();
    }

    private static void tellsWhatCame() {
        FieldPack x = new FieldPack(400, 0);
        DUE.is("none at first", x.increment(), 0);
        DUE.bytes("nothing told", x, 1);
        for (int i = 0; i < 12; i++) {
            x.field('i' + i, 0, false);
        }
        x.encode(0);
        DUE.is("none has come", x.increment(), 0);
        x.move(0, 9);
        DUE.is("three have come", x.increment(), 3);
        DUE.is("told already", x.increment(), 0);
        x.move(0, 100);
        DUE.is("nine more", x.increment(), 9);
        DUE.bytes("told", x, 1, 3, 9);
        x.move(1, 1);
        DUE.is("K", x.told(0, 3), 3);
        x.move(1, 1);
        DUE.is("K", x.told(0, 3), 12);
    }

    private static void acknowledgedSectionsTell() {
        FieldPack x = new FieldPack(400, 1);
        Due.put(x, "q", "v");
        Due.put(x, "r", "v");
        x.encode(0);
        Due.put(x, "s", "v");
        x.encode(0);
        x.move(0, 100);
        x.deliver(0);
        DUE.is("but for those of the section", x.increment(), 1);
        x.deliver(0);
        DUE.is("nothing new by the second", x.increment(), 0);
        DUE.bytes("told", x, 1, 128, 1, 128);
        x.move(1, 1);
        DUE.told("R makes K", x, 0, 3, 3, 102, 2, 1, 1);
        x.move(1, 1);
        DUE.told("n makes it more", x, 0, 3, 3, 102, 3, 1, 0);
        x.move(1, 1);
        DUE.told("R that is not above K", x, 0, 3, 3, 102, 3, 0, 0);
    }

    private static void anOlderAcknowledgementTellsNothingNew() {
        FieldPack x = new FieldPack(400, 2);
        Due.put(x, "q", "v");
        x.encode(1);
        Due.put(x, "r", "v");
        x.encode(0);
        x.move(0, 100);
        x.deliver(0);
        x.deliver(1);
        DUE.is("R = 1 behind R = 2", x.increment(), 0);
        x.move(1, 2);
        DUE.is("K", x.told(0, 3), 2);
    }

    private static void cancelTakesAll() {
        FieldPack x = new FieldPack(400, 1);
        x.encode(4);
        x.deliver(4);
        for (int i = 0; i < 5; i++) {
            Due.put(x, "q", "v");
            x.encode(4);
        }
        x.deliver(4);
        x.deliver(4);
        DUE.is("two wait, three lie there", x.cancel(4), 5);
        DUE.told("none waits", x, 1, 0, 0, 0, 0, 0);
        DUE.is("none lies there", x.waiting(6), -1);
        DUE.bytes("told", x, 1, 68);
        DUE.is("deliver", x.deliver(4), -1);
        DUE.is("encode", x.encode(4), -1);
        DUE.is("again", x.cancel(4), -1);
        DUE.bytes("told once", x, 1, 68);
        x.move(0, 100);
        DUE.is("what was decoded stays", x.sections(4), 1);
        DUE.bytes("nothing acknowledged", x, 1, 68);
        DUE.is("what came is still told", x.increment(), 1);
    }

    private static void cancelOfNothing() {
        FieldPack x = new FieldPack(400, 1);
        for (int s = 0; s < 8; s++) {
            DUE.is("cancel(" + s + ")", x.cancel(s), 0);
        }
        DUE.bytes("told", x, 1, 64, 65, 66, 67, 68, 69, 70, 71);
    }

    private static void wrongCancels() {
        FieldPack x = new FieldPack(400, 1);
        for (int stream : new int[] {-1, 8, Integer.MIN_VALUE, Integer.MAX_VALUE}) {
            DUE.is("cancel(" + stream + ")", x.cancel(stream), -1);
        }
        DUE.bytes("nothing told", x, 1);
    }

    private static void cancelledAtTheEncoderLater() {
        FieldPack x = new FieldPack(400, 1);
        Due.put(x, "q", "v");
        x.encode(0);
        Due.put(x, "q", "v");
        x.encode(0);
        x.cancel(0);
        DUE.told("not heard yet", x, 0, 1, 1, 34, 0, 2, 1);
        Due.put(x, "q", "v");
        DUE.is("may not risk", x.encode(1), 6);
        x.move(1, 1);
        DUE.told("heard", x, 0, 1, 1, 34, 0, 0, 0);
        Due.put(x, "q", "v");
        DUE.is("may risk", x.encode(1), 3);
    }
}
