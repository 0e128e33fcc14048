/** Promises 4 and 5: move and deliver. */
public final class MoveTest {
    private static final Due DUE = new Due();

    public static void main(String[] args) {
        wrongMoves();
        instructionsByTheirLastByte();
        streamsInOrder();
        oneBehindABlockedOneWaits();
        someAreReleased();
        requiredAtTheEdges();
        wrongDeliveries();
        atMostEightWait();
        backByteByByte();
        DUE.done();
    }

    private static void wrongMoves() {
        FieldPack x = new FieldPack(400, 1);
        Due.put(x, "q", "v");
        x.encode(0);
        DUE.is("move(-1, 1)", x.move(-1, 1), -1);
        DUE.is("move(2, 1)", x.move(2, 1), -1);
        DUE.is("move(0, -1)", x.move(0, -1), -1);
        DUE.is("move(0, 6001)", x.move(0, 6001), -1);
        DUE.is("move(1, 6001)", x.move(1, 6001), -1);
        DUE.is("move(0, least)", x.move(0, Integer.MIN_VALUE), -1);
        DUE.is("move(0, greatest)", x.move(0, Integer.MAX_VALUE), -1);
        DUE.is("nothing moved", x.waiting(0), 4);
        DUE.is("move(0, 0)", x.move(0, 0), 0);
        DUE.is("nothing moved", x.waiting(0), 4);
        DUE.is("move(0, 6000)", x.move(0, 6000), 4);
        DUE.is("move(1, 6000)", x.move(1, 6000), 0);
    }

    private static void instructionsByTheirLastByte() {
        FieldPack x = new FieldPack(400, 1);
        Due.put(x, "eightbyt", "v");
        Due.put(x, "eightbyt", "");
        Due.put(x, "c", "v");
        x.encode(0);
        DUE.bytes("three", x, 0, 72, 'e', 'i', 'g', 'h', 't', 'b', 'y', 't', 1, 'v', 128, 0, 194, 1, 'v');
        int[] counts = {0, 0, 0, 0, 0, 0, 0, 0, 0, 0, 1, 1, 2, 2, 2, 3};
        for (int i = 0; i < counts.length; i++) {
            DUE.is("byte " + i, x.move(0, 1), 1);
            DUE.is("COUNT after byte " + i, x.told(1, 0), counts[i]);
            DUE.is("left after byte " + i, x.waiting(0), counts.length - 1 - i);
        }
        DUE.is("none left", x.move(0, 1), 0);
        DUE.told("decoder", x, 1, 3, 3, 41 + 40 + 34, 0, 0);
        DUE.is("name", x.entry(1, 1, 0), Due.text("eightbyt"));
        DUE.is("value", x.entry(1, 1, 1), 0);
        DUE.is("fixed name", x.entry(1, 2, 0), 'c');
        DUE.is("encode has told none of it", x.told(0, 3), 0);
    }

    private static void streamsInOrder() {
        FieldPack x = new FieldPack(400, 4);
        for (int s : new int[] {5, 3, 3, 6}) {
            Due.put(x, "q", "v");
            x.encode(s);
        }
        for (int s : new int[] {6, 5, 3, 3}) {
            DUE.is("deliver(" + s + ")", x.deliver(s), 0);
        }
        DUE.told("all wait", x, 1, 0, 0, 0, 4, 3);
        x.move(0, 4);
        DUE.told("none waits", x, 1, 1, 1, 34, 0, 0);
        DUE.bytes("told by streams", x, 1, 131, 131, 133, 134);
        DUE.is("sections(3)", x.sections(3), 2);
        DUE.is("sections(5)", x.sections(5), 1);
    }

    private static void oneBehindABlockedOneWaits() {
        FieldPack x = new FieldPack(400, 1);
        Due.put(x, "q", "v");
        x.encode(0);
        Due.put(x, "a", "");
        x.encode(0);
        x.encode(1);
        DUE.is("blocked", x.deliver(0), 0);
        DUE.is("behind it", x.deliver(0), 0);
        DUE.is("another stream", x.deliver(1), 1);
        DUE.told("two wait on one stream", x, 1, 0, 0, 0, 2, 1);
        x.move(0, 3);
        DUE.told("not yet", x, 1, 0, 0, 0, 2, 1);
        x.move(0, 1);
        DUE.told("now", x, 1, 1, 1, 34, 0, 0);
        DUE.bytes("R = 0 is not acknowledged", x, 1, 128);
        DUE.is("first", x.decoded(0, 0, 0, 0), 'q');
        DUE.is("second", x.decoded(0, 1, 0, 0), 'a');
    }

    private static void someAreReleased() {
        FieldPack x = new FieldPack(400, 2);
        for (String name : new String[] {"q", "r", "s"}) {
            Due.put(x, name, "v");
            x.encode(4);
            x.deliver(4);
        }
        Due.put(x, "r", "v");
        x.encode(2);
        x.deliver(2);
        DUE.told("all wait", x, 1, 0, 0, 0, 4, 2);
        x.move(0, 8);
        DUE.told("one waits", x, 1, 2, 2, 68, 1, 1);
        DUE.bytes("told", x, 1, 130, 132, 132);
        x.move(0, 8);
        DUE.told("none waits", x, 1, 3, 3, 102, 0, 0);
        DUE.is("its value", x.decoded(4, 2, 0, 1), 'v');
    }

    /** R is as far above COUNT, then as far below it, as it can be read. */
    private static void requiredAtTheEdges() {
        FieldPack x = new FieldPack(66, 1);
        Due.put(x, "q", "");
        Due.put(x, "r", "");
        x.encode(0);
        DUE.bytes("R = 2", x, 2, 3, 129, 16, 17);
        DUE.is("two have to come", x.deliver(0), 0);
        x.move(0, 3);
        DUE.told("one has to come", x, 1, 1, 1, 33, 1, 1);
        x.move(0, 3);
        DUE.told("none has to come", x, 1, 2, 2, 66, 0, 0);
        x.move(1, 1);
        Due.put(x, "q", "");
        x.encode(1);
        DUE.bytes("R = 1", x, 3, 2, 1, 129);
        DUE.is("the oldest", x.deliver(1), 1);
        DUE.is("its name", x.decoded(1, 0, 0, 0), 'q');
    }

    private static void wrongDeliveries() {
        FieldPack x = new FieldPack(400, 1);
        for (int stream : new int[] {-1, 0, 7, 8, Integer.MIN_VALUE, Integer.MAX_VALUE}) {
            DUE.is("deliver(" + stream + ")", x.deliver(stream), -1);
        }
        x.encode(0);
        DUE.is("deliver(0)", x.deliver(0), 1);
        DUE.is("deliver(0) again", x.deliver(0), -1);
    }

    private static void atMostEightWait() {
        FieldPack x = new FieldPack(400, 1);
        for (int i = 0; i < 8; i++) {
            Due.put(x, "q", "v");
            x.encode(0);
            DUE.is("deliver(0) " + i, x.deliver(0), 0);
        }
        Due.put(x, "q", "v");
        x.encode(0);
        DUE.is("a ninth", x.deliver(0), -1);
        DUE.is("it lies there", x.waiting(2), 3);
        DUE.told("eight wait", x, 1, 0, 0, 0, 8, 1);
        x.move(0, 4);
        DUE.is("all eight decoded", x.sections(0), 8);
        DUE.is("the ninth", x.deliver(0), 1);
        DUE.bytes("nine told", x, 1, 128, 128, 128, 128, 128, 128, 128, 128, 128);
    }

    private static void backByteByByte() {
        FieldPack x = new FieldPack(400, 2);
        Due.put(x, "q", "v");
        x.encode(1);
        Due.put(x, "r", "v");
        x.encode(1);
        Due.put(x, "q", "v");
        x.encode(2);
        x.move(0, 100);
        x.increment();
        x.deliver(1);
        x.cancel(2);
        x.deliver(1);
        DUE.bytes("told", x, 1, 2, 129, 66, 129);
        DUE.told("at first", x, 0, 2, 2, 68, 0, 3, 2);
        x.move(1, 1);
        DUE.told("two have come", x, 0, 2, 2, 68, 2, 3, 0);
        x.move(1, 1);
        DUE.told("the oldest acknowledged", x, 0, 2, 2, 68, 2, 2, 0);
        x.move(1, 1);
        DUE.told("stream 2 given up", x, 0, 2, 2, 68, 2, 1, 0);
        DUE.is("the last", x.move(1, 9), 1);
        DUE.told("all acknowledged", x, 0, 2, 2, 68, 2, 0, 0);
    }
}
