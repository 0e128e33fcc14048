/** Terms: BACK, K, OPEN, at RISK, MAY RISK and BUSY. */
public final class RiskTermsTest {
    private static final Due DUE = new Due();

    public static void main(String[] args) {
        acknowledgedIsTheOldestThatRefers();
        acknowledgedMakesKnown();
        toldEntriesMakeKnownMore();
        withoutReferenceNoneIsOpen();
        cancelledAreOpenNoMore();
        atRiskAboveKnown();
        aStreamIsAtRiskOnce();
        mayRiskBelowBlocked();
        mayRiskAtRiskAlready();
        mayRiskAgainWhenFewerAre();
        busyByAnOpenSection();
        busyByAName();
        busyByTheSectionThatIsMade();
        busyFromKnownOn();
        busyBehindOneThatMayGo();
        DUE.done();
    }

    /** Inserts a field that no open section refers to, and the encoder hears that it has come. */
    private static void plant(FieldPack x, String name, String value) {
        Due.put(x, name, value);
        x.encode(7);
        x.deliver(7);
        x.move(0, 6000);
        x.increment();
        x.move(1, 6000);
    }

    private static int send(FieldPack x, int stream, String name, String value) {
        Due.put(x, name, value);
        return x.encode(stream);
    }

    /** "the oldest section, of those that refer to the table and were not acknowledged, of this stream" */
    private static void acknowledgedIsTheOldestThatRefers() {
        FieldPack x = new FieldPack(400, 4);
        send(x, 1, "q", "v");
        send(x, 0, "a", "");
        send(x, 0, "q", "v");
        send(x, 0, "r", "v");
        x.encode(0);
        send(x, 0, "s", "v");
        DUE.told("four are open", x, 0, 3, 3, 102, 0, 4, 2);
        x.move(0, 6000);
        for (int i = 0; i < 5; i++) {
            x.deliver(0);
        }
        DUE.bytes("three refer to the table", x, 1, 128, 128, 128);
        x.move(1, 1);
        DUE.told("the oldest of stream 0: R = 1", x, 0, 3, 3, 102, 1, 3, 1);
        x.move(1, 1);
        DUE.told("the next: R = 2", x, 0, 3, 3, 102, 2, 2, 1);
        x.move(1, 1);
        DUE.told("the last: R = 3; stream 1 is still open", x, 0, 3, 3, 102, 3, 1, 0);
    }

    /** "an acknowledged section with R above it makes it R": R on both sides of K, and K itself */
    private static void acknowledgedMakesKnown() {
        int[][] cases = {{0, 2}, {1, 2}, {2, 2}, {3, 3}};
        for (int[] c : cases) {
            FieldPack x = new FieldPack(400, 4);
            send(x, 0, "q", "v");
            Due.put(x, "r", "v");
            x.encode(1);
            send(x, 2, "s", "v");
            // K by what came, then the section with R = 2.
            x.move(0, 4 * c[0]);
            x.increment();
            x.move(0, 6000);
            x.deliver(1);
            if (c[0] > 0) {
                x.move(1, 1);
            }
            DUE.is("K before", x.told(0, 3), c[0]);
            x.move(1, 1);
            DUE.told("R = 2 with K = " + c[0], x, 0, 3, 3, 102, c[1], 2, c[1] == 3 ? 0 : 1);
        }
    }

    /** "n makes it n more" */
    private static void toldEntriesMakeKnownMore() {
        FieldPack x = new FieldPack(400, 0);
        int[] more = {1, 3, 2};
        int known = 0;
        for (int n : more) {
            for (int i = 0; i < n; i++) {
                x.field('i' + known + i, 0, false);
            }
            x.encode(0);
            x.move(0, 6000);
            DUE.is("increment()", x.increment(), n);
            DUE.is("K before it is heard", x.told(0, 3), known);
            x.move(1, 1);
            known += n;
            DUE.is("K", x.told(0, 3), known);
        }
        DUE.is("nothing more", x.increment(), 0);
        x.move(1, 1);
        DUE.is("K", x.told(0, 3), 6);
    }

    /** "Sections with R above 0 .. are OPEN" */
    private static void withoutReferenceNoneIsOpen() {
        FieldPack x = new FieldPack(400, 1);
        x.encode(0);
        send(x, 0, "a", "");
        DUE.told("R = 0", x, 0, 0, 0, 0, 0, 0, 0);
        send(x, 0, "q", "");
        DUE.told("R = 1", x, 0, 1, 1, 33, 0, 1, 1);
        send(x, 1, "q", "");
        DUE.told("may not be risked: R = 0", x, 0, 1, 1, 33, 0, 1, 1);
    }

    /** "0 1 NUMBER ( 6, stream ): none of that stream is waited for any more" */
    private static void cancelledAreOpenNoMore() {
        FieldPack x = new FieldPack(400, 4);
        for (int stream : new int[] {2, 3, 2, 2}) {
            send(x, stream, "q", "v");
        }
        x.cancel(2);
        DUE.told("not heard yet", x, 0, 1, 1, 34, 0, 4, 2);
        x.move(1, 1);
        DUE.told("heard", x, 0, 1, 1, 34, 0, 1, 1);
        x.cancel(4);
        x.move(1, 1);
        DUE.told("none was open", x, 0, 1, 1, 34, 0, 1, 1);
        x.cancel(3);
        x.move(1, 1);
        DUE.told("no one is", x, 0, 1, 1, 34, 0, 0, 0);
    }

    /** "when it has an OPEN one with R above K": R = K + 1, R = K, R = K - 1 */
    private static void atRiskAboveKnown() {
        FieldPack x = new FieldPack(400, 4);
        send(x, 0, "q", "v");
        send(x, 1, "r", "v");
        send(x, 2, "s", "v");
        int[] atRisk = {3, 2, 1, 0};
        for (int known = 0; known <= 3; known++) {
            DUE.told("K = " + known, x, 0, 3, 3, 102, known, 3, atRisk[known]);
            x.move(0, 4);
            x.increment();
            x.move(1, 1);
        }
    }

    private static void aStreamIsAtRiskOnce() {
        FieldPack x = new FieldPack(400, 2);
        send(x, 5, "q", "v");
        send(x, 5, "r", "v");
        send(x, 5, "q", "v");
        DUE.told("three sections of one stream", x, 0, 2, 2, 68, 0, 3, 1);
        x.move(0, 4);
        x.increment();
        x.move(1, 1);
        DUE.told("by one of them still", x, 0, 2, 2, 68, 1, 3, 1);
    }

    /** "or fewer than BLOCKED streams are": one fewer, as many, and one more that would be */
    private static void mayRiskBelowBlocked() {
        for (int blocked = 0; blocked <= 4; blocked++) {
            FieldPack x = new FieldPack(400, blocked);
            for (int stream = 0; stream < 8; stream++) {
                int due = stream < blocked ? 3 : 6;
                DUE.is("blocked " + blocked + ", stream " + stream, send(x, stream, "q", "v"), due);
                int atRisk = Math.min(blocked, stream + 1);
                DUE.told("blocked " + blocked, x, 0, 1, 1, 34, 0, atRisk, atRisk);
            }
        }
    }

    /** "when S is at risk already", though as many as BLOCKED are */
    private static void mayRiskAtRiskAlready() {
        FieldPack x = new FieldPack(400, 2);
        send(x, 0, "q", "v");
        send(x, 1, "q", "v");
        DUE.is("at risk already", send(x, 0, "r", "v"), 3);
        DUE.is("at risk already", send(x, 1, "r", "v"), 3);
        DUE.is("not at risk", send(x, 2, "r", "v"), 6);
        DUE.is("a new entry is not risked, either", send(x, 2, "s", "v"), 6);
        DUE.told("but it was inserted", x, 0, 3, 3, 102, 0, 4, 2);
    }

    private static void mayRiskAgainWhenFewerAre() {
        FieldPack x = new FieldPack(400, 1);
        send(x, 0, "q", "v");
        DUE.is("one is", send(x, 1, "q", "v"), 6);
        x.move(0, 6000);
        DUE.is("it has come, but that was not told", send(x, 1, "q", "v"), 6);
        x.deliver(0);
        DUE.is("told, but not heard", send(x, 1, "q", "v"), 6);
        x.move(1, 1);
        DUE.is("heard", send(x, 1, "q", "v"), 3);
        DUE.is("and a new one may be risked", send(x, 2, "r", "v"), 3);
        DUE.is("by one stream", send(x, 1, "s", "v"), 6);
        x.cancel(2);
        DUE.is("given up, but not heard", send(x, 1, "s", "v"), 6);
        x.move(1, 1);
        DUE.is("heard", send(x, 1, "s", "v"), 3);
    }

    /** A table of two that is full, both known. */
    private static FieldPack full() {
        FieldPack x = new FieldPack(68, 0);
        plant(x, "q", "v");
        plant(x, "r", "v");
        DUE.told("full", x, 0, 2, 2, 68, 2, 0, 0);
        return x;
    }

    /** "An entry is BUSY if an OPEN section refers to it" */
    private static void busyByAnOpenSection() {
        FieldPack x = full();
        send(x, 0, "q", "v");
        DUE.is("BUSY", send(x, 1, "s", "v"), 6);
        DUE.told("not inserted", x, 0, 2, 2, 68, 2, 1, 0);
        DUE.bytes("nothing told of it", x, 0);
        x.deliver(0);
        send(x, 1, "s", "v");
        DUE.told("not acknowledged yet", x, 0, 2, 2, 68, 2, 1, 0);
        x.move(1, 1);
        send(x, 1, "s", "v");
        DUE.told("acknowledged", x, 0, 3, 2, 68, 2, 0, 0);
        DUE.bytes("inserted", x, 0, 65, 's', 1, 'v');

        x = full();
        send(x, 0, "q", "v");
        x.cancel(0);
        send(x, 1, "s", "v");
        DUE.told("given up, but not heard", x, 0, 2, 2, 68, 2, 1, 0);
        x.move(1, 1);
        send(x, 1, "s", "v");
        DUE.told("heard", x, 0, 3, 2, 68, 2, 0, 0);

        x = full();
        send(x, 0, "q", "v");
        send(x, 1, "q", "v");
        x.deliver(0);
        x.move(1, 1);
        send(x, 2, "s", "v");
        DUE.told("another section refers to it", x, 0, 2, 2, 68, 2, 1, 0);

        x = full();
        send(x, 0, "r", "v");
        send(x, 1, "s", "v");
        DUE.told("only the newer one is BUSY", x, 0, 3, 2, 68, 2, 1, 0);
    }

    /** A line that takes only the name of an entry refers to it, too. */
    private static void busyByAName() {
        FieldPack x = full();
        Due.putSensitive(x, "q", "w");
        DUE.is("by its name", x.encode(0), 5);
        DUE.told("open", x, 0, 2, 2, 68, 2, 1, 0);
        send(x, 1, "s", "v");
        DUE.told("BUSY", x, 0, 2, 2, 68, 2, 1, 0);
        x.deliver(0);
        x.move(1, 1);
        send(x, 1, "s", "v");
        DUE.told("acknowledged", x, 0, 3, 2, 68, 2, 0, 0);
    }

    /** "or one that is being made does" */
    private static void busyByTheSectionThatIsMade() {
        FieldPack x = full();
        Due.put(x, "q", "v");
        Due.put(x, "s", "v");
        x.encode(0);
        DUE.told("referred to before", x, 0, 2, 2, 68, 2, 1, 0);
        DUE.bytes("by texts", x, 2, 2, 1, 129, 33, 's', 1, 'v');
        x = full();
        Due.put(x, "s", "v");
        Due.put(x, "q", "v");
        x.encode(0);
        DUE.told("not referred to before: both could go", x, 0, 4, 2, 68, 2, 0, 0);
        DUE.bytes("gone before it is asked for", x, 2, 0, 2, 33, 's', 1, 'v', 33, 'q', 1, 'v');
        DUE.bytes("it comes in again", x, 0, 65, 's', 1, 'v', 65, 'q', 1, 'v');
    }

    /** "or it is not below K": the entry K - 1 may go, the entry K may not */
    private static void busyFromKnownOn() {
        for (int known = 0; known <= 2; known++) {
            FieldPack x = new FieldPack(68, 0);
            send(x, 0, "q", "v");
            send(x, 0, "r", "v");
            x.move(0, 4 * known);
            x.increment();
            x.move(1, 1);
            DUE.told("K = " + known, x, 0, 2, 2, 68, known, 0, 0);
            send(x, 1, "s", "v");
            DUE.told("one may go", x, 0, known > 0 ? 3 : 2, 2, 68, known, 0, 0);
            send(x, 1, "t", "v");
            DUE.told("the next may go", x, 0, 2 + known, 2, 68, known, 0, 0);
            send(x, 1, "u", "v");
            DUE.told("none may go", x, 0, 2 + known, 2, 68, known, 0, 0);
        }
    }

    /** Two have to go, of which the second is BUSY: none goes. */
    private static void busyBehindOneThatMayGo() {
        for (int known = 1; known <= 2; known++) {
            FieldPack x = new FieldPack(80, 0);
            send(x, 0, "q", "");
            send(x, 0, "r", "");
            x.move(0, 3 * known);
            x.increment();
            x.move(1, 1);
            send(x, 1, "eightbyt", "eightbyt");
            if (known == 1) {
                DUE.told("entry 1 is not known", x, 0, 2, 2, 66, 1, 0, 0);
                DUE.is("entry 0 stays", x.entry(0, 0, 0), 'q');
            } else {
                DUE.told("both are known", x, 0, 3, 1, 48, 2, 0, 0);
            }
        }
        FieldPack x = new FieldPack(80, 0);
        plant(x, "q", "");
        plant(x, "r", "");
        send(x, 0, "r", "");
        send(x, 1, "eightbyt", "eightbyt");
        DUE.told("entry 1 is referred to", x, 0, 2, 2, 66, 2, 1, 0);
        send(x, 1, "s", "");
        DUE.told("but entry 0 alone may go", x, 0, 3, 2, 66, 2, 1, 0);
    }
}
