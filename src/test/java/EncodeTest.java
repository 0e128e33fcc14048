/** Promise 3: encode, with the lines and instructions that the terms ask for. */
public final class EncodeTest {
    private static final Due DUE = new Due();

    public static void main(String[] args) {
        refusals();
        atMostEightOnAWire();
        atMostTwoHundred();
        fixedEntries();
        fixedNames();
        literalTexts();
        linesOfOneSection();
        linesOfALaterSection();
        namesFromTheBaseOn();
        insertedButNotRisked();
        lastOfTheNameDecides();
        insertedByANameThatGoes();
        busyEntriesStay();
        entriesOfTheSectionItselfStay();
        riskOfAStreamAtRisk();
        requiredWrapsRound();
        longNumbers();
        DUE.done();
    }

    /** All that lies on wire 0 comes, is told back, and that comes too. */
    private static void settle(FieldPack x) {
        x.move(0, 6000);
        x.increment();
        x.move(1, 6000);
    }

    /** Inserts without a reference that stays open. */
    private static void plant(FieldPack x, String name, String value) {
        Due.put(x, name, value);
        x.encode(7);
        x.move(0, 6000);
        x.deliver(7);
        x.increment();
        x.move(1, 6000);
    }

    private static void refusals() {
        FieldPack x = new FieldPack(200, 1);
        Due.put(x, "q", "v");
        for (int stream : new int[] {-1, 8, Integer.MIN_VALUE, Integer.MAX_VALUE}) {
            DUE.is("encode(" + stream + ")", x.encode(stream), -1);
        }
        x.cancel(3);
        DUE.is("encode of one given up", x.encode(3), -1);
        DUE.told("refused", x, 0, 0, 0, 0, 0, 0, 0);
        DUE.is("nothing on wire 0", x.waiting(0), 0);
        DUE.is("the field is still there", Due.put(x, "q", "w"), 2);
        DUE.is("encode(4)", x.encode(4), 4);
        DUE.is("encode(4) without fields", x.encode(4), 2);
    }

    private static void atMostEightOnAWire() {
        FieldPack x = new FieldPack(0, 0);
        for (int i = 0; i < 8; i++) {
            DUE.is("encode(5) " + i, x.encode(5), 2);
        }
        Due.put(x, "a", "");
        DUE.is("a ninth", x.encode(5), -1);
        DUE.is("another stream", x.encode(6), 3);
        x.deliver(5);
        DUE.is("a place is free", x.encode(5), 2);
    }

    private static void atMostTwoHundred() {
        FieldPack x = new FieldPack(0, 0);
        for (int i = 0; i < 200; i++) {
            DUE.is("section " + i, x.encode(i % 8), 2);
            x.deliver(i % 8);
        }
        Due.put(x, "a", "");
        DUE.is("section 200", x.encode(0), -1);
        DUE.is("its field stays", Due.put(x, "a", ""), 2);
    }

    private static void fixedEntries() {
        FieldPack x = new FieldPack(400, 4);
        for (int k = 0; k < 8; k++) {
            x.field('a' + k, k % 2 == 0 ? 0 : '1', k > 3);
        }
        DUE.is("encode(0)", x.encode(0), 10);
        DUE.bytes("fixed entries", x, 2, 0, 0, 192, 193, 194, 195, 196, 197, 198, 199);
        DUE.bytes("nothing inserted", x, 0);
        DUE.is("deliver(0)", x.deliver(0), 1);
        for (int k = 0; k < 8; k++) {
            DUE.is("name " + k, x.decoded(0, 0, k, 0), 'a' + k);
            DUE.is("value " + k, x.decoded(0, 0, k, 1), k % 2 == 0 ? 0 : '1');
            DUE.is("came as sensitive " + k, x.decoded(0, 0, k, 2), 0);
        }
    }

    private static void fixedNames() {
        FieldPack x = new FieldPack(0, 4);
        Due.put(x, "a", "1");
        Due.putSensitive(x, "h", "");
        Due.put(x, "`", "");
        Due.put(x, "i", "1");
        x.encode(0);
        DUE.bytes("fixed names", x, 2, 0, 0, 80, 1, '1', 119, 0, 33, '`', 0, 33, 'i', 1, '1');
        x = new FieldPack(100, 4);
        Due.put(x, "h", "");
        Due.put(x, "h", "x");
        x.encode(0);
        DUE.bytes("inserted by fixed names", x, 0, 199, 0, 199, 1, 'x');
        DUE.bytes("their lines", x, 2, 3, 129, 16, 17);
    }

    private static void literalTexts() {
        FieldPack x = new FieldPack(0, 0);
        Due.put(x, "sixbyt", "");
        Due.put(x, "sevenby", "v");
        Due.putSensitive(x, "eightbyt", "valueval");
        x.encode(0);
        DUE.bytes("texts", x, 2, 0, 0,
                38, 's', 'i', 'x', 'b', 'y', 't', 0,
                39, 0, 's', 'e', 'v', 'e', 'n', 'b', 'y', 1, 'v',
                55, 1, 'e', 'i', 'g', 'h', 't', 'b', 'y', 't', 8, 'v', 'a', 'l', 'u', 'e', 'v', 'a', 'l');
    }

    private static void linesOfOneSection() {
        FieldPack x = new FieldPack(400, 1);
        Due.put(x, "q", "");
        Due.put(x, "q", "v");
        Due.put(x, "q", "");
        Due.putSensitive(x, "q", "v");
        Due.putSensitive(x, "r", "v");
        DUE.is("encode(2)", x.encode(2), 12);
        DUE.bytes("inserted", x, 0, 65, 'q', 0, 128, 1, 'v');
        DUE.bytes("lines", x, 4, 3, 129, 16, 17, 16, 9, 1, 'v', 49, 'r', 1, 'v');
        DUE.told("after it", x, 0, 2, 2, 67, 0, 1, 1);
    }

    private static void linesOfALaterSection() {
        FieldPack x = new FieldPack(400, 0);
        plant(x, "q", "v");
        plant(x, "r", "v");
        DUE.told("two entries", x, 0, 2, 2, 68, 2, 0, 0);
        Due.put(x, "q", "v");
        Due.put(x, "r", "v");
        Due.putSensitive(x, "q", "v");
        Due.putSensitive(x, "r", "w");
        x.encode(0);
        DUE.bytes("below the base", x, 2, 3, 0, 129, 128, 97, 1, 'v', 96, 1, 'w');
        DUE.bytes("nothing inserted", x, 0);
        Due.put(x, "q", "v");
        x.encode(1);
        DUE.bytes("R below the base", x, 3, 2, 1, 129);
        x.encode(2);
        DUE.bytes("R is 0, the base is told from there", x, 4, 0, 2);
    }

    private static void namesFromTheBaseOn() {
        FieldPack x = new FieldPack(400, 1);
        for (int i = 0; i < 8; i++) {
            x.field('i' + i, 'v', false);
        }
        Due.putSensitive(x, "o", "w");
        Due.putSensitive(x, "p", "w");
        x.encode(0);
        DUE.bytes("names from the base on", x, 2, 9, 135, 16, 17, 18, 19, 20, 21, 22, 23,
                14, 1, 'w', 15, 0, 1, 'w');
    }

    private static void insertedButNotRisked() {
        FieldPack x = new FieldPack(400, 0);
        Due.put(x, "q", "v");
        Due.put(x, "q", "v");
        Due.put(x, "b", "v");
        x.encode(0);
        DUE.bytes("inserted", x, 0, 65, 'q', 1, 'v', 193, 1, 'v');
        DUE.bytes("not referred to", x, 2, 0, 0, 33, 'q', 1, 'v', 33, 'q', 1, 'v', 81, 1, 'v');
        DUE.told("no open section", x, 0, 2, 2, 68, 0, 0, 0);
    }

    private static void lastOfTheNameDecides() {
        FieldPack x = new FieldPack(400, 0);
        plant(x, "q", "v");
        Due.put(x, "q", "w");
        x.encode(0);
        DUE.bytes("by the name of an entry", x, 0, 128, 1, 'w');
        DUE.bytes("the new entry is the last of its name", x, 2, 0, 1, 33, 'q', 1, 'w');
        Due.putSensitive(x, "q", "x");
        x.encode(1);
        DUE.bytes("as for a later one", x, 3, 0, 2, 49, 'q', 1, 'x');
        settle(x);
        Due.putSensitive(x, "q", "x");
        x.encode(2);
        DUE.bytes("known by now", x, 4, 3, 0, 96, 1, 'x');
    }

    private static void insertedByANameThatGoes() {
        FieldPack x = new FieldPack(34, 0);
        plant(x, "q", "v");
        Due.put(x, "q", "w");
        x.encode(0);
        DUE.bytes("by the name that goes", x, 0, 128, 1, 'w');
        DUE.told("it is gone", x, 0, 2, 1, 34, 1, 0, 0);
        x.move(0, 6000);
        DUE.is("name at the decoder", x.entry(1, 1, 0), 'q');
        DUE.is("value at the decoder", x.entry(1, 1, 1), 'w');
        DUE.is("the first is gone there", x.entry(1, 0, 0), -1);
    }

    private static void busyEntriesStay() {
        FieldPack x = new FieldPack(68, 0);
        plant(x, "q", "v");
        plant(x, "r", "v");
        Due.put(x, "q", "v");
        x.encode(0);
        Due.put(x, "s", "v");
        DUE.is("the oldest is referred to", x.encode(1), 6);
        DUE.told("not inserted", x, 0, 2, 2, 68, 2, 1, 0);
        x.deliver(0);
        Due.put(x, "s", "v");
        x.encode(1);
        DUE.told("not acknowledged yet", x, 0, 2, 2, 68, 2, 1, 0);
        x.move(1, 1);
        Due.put(x, "s", "v");
        x.encode(1);
        DUE.told("acknowledged", x, 0, 3, 2, 68, 2, 0, 0);
        Due.put(x, "t", "v");
        x.encode(1);
        DUE.told("the next may go, too", x, 0, 4, 2, 68, 2, 0, 0);
        Due.put(x, "u", "v");
        x.encode(1);
        DUE.told("entries from K on stay", x, 0, 4, 2, 68, 2, 0, 0);
    }

    private static void entriesOfTheSectionItselfStay() {
        FieldPack x = new FieldPack(68, 0);
        plant(x, "q", "v");
        plant(x, "r", "v");
        Due.putSensitive(x, "q", "w");
        Due.put(x, "s", "v");
        x.encode(0);
        DUE.told("not inserted", x, 0, 2, 2, 68, 2, 1, 0);
        DUE.bytes("by texts", x, 2, 2, 1, 97, 1, 'w', 33, 's', 1, 'v');
        x.cancel(0);
        x.move(1, 1);
        Due.put(x, "s", "v");
        Due.putSensitive(x, "q", "w");
        x.encode(1);
        DUE.told("inserted", x, 0, 3, 2, 68, 2, 0, 0);
        DUE.bytes("its name is gone", x, 3, 0, 2, 33, 's', 1, 'v', 49, 'q', 1, 'w');
    }

    private static void riskOfAStreamAtRisk() {
        FieldPack x = new FieldPack(400, 1);
        Due.put(x, "q", "v");
        DUE.is("one may risk", x.encode(6), 3);
        Due.put(x, "q", "v");
        DUE.is("another may not", x.encode(5), 6);
        Due.put(x, "r", "v");
        DUE.is("it is at risk already", x.encode(6), 3);
        DUE.told("at risk", x, 0, 2, 2, 68, 0, 2, 1);
        x.move(0, 4);
        x.increment();
        x.move(1, 1);
        DUE.told("still at risk by the second", x, 0, 2, 2, 68, 1, 2, 1);
        Due.put(x, "r", "v");
        DUE.is("still not another", x.encode(5), 6);
        Due.put(x, "q", "v");
        DUE.is("but what has come", x.encode(5), 3);
        settle(x);
        DUE.told("none at risk", x, 0, 2, 2, 68, 2, 3, 0);
    }

    private static void requiredWrapsRound() {
        FieldPack x = new FieldPack(70, 1);
        int[] codes = {2, 3, 4, 1, 2, 3, 4, 1, 2};
        for (int i = 0; i < codes.length; i++) {
            x.field('q', 'A' + i, false);
            x.encode(0);
            DUE.bytes("R = " + (i + 1), x, 2, codes[i], 128, 16);
            x.deliver(0);
            x.move(0, 100);
            x.move(1, 100);
            DUE.is("value " + i, x.decoded(0, i, 0, 1), 'A' + i);
        }
    }

    private static void longNumbers() {
        FieldPack x = new FieldPack(400, 0);
        for (int i = 0; i < 18; i++) {
            for (int f = 0; f < 8; f++) {
                x.field('q', Due.text("w!") + 8 * i + f, false);
            }
            x.encode(0);
            x.deliver(0);
            settle(x);
        }
        DUE.told("many entries", x, 0, 144, 11, 385, 144, 0, 0);
        x.encode(0);
        DUE.bytes("B = 144, R = 0", x, 2, 0, 127, 17);
        x.deliver(0);
        Due.putSensitive(x, "q", "");
        x.encode(0);
        DUE.bytes("R = 144", x, 2, 1, 0, 96, 0);
    }
}
