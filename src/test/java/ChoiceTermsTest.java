/** Terms: which line and which instruction the encoder chooses "for each field, in order". */
public final class ChoiceTermsTest {
    private static final Due DUE = new Due();

    public static void main(String[] args) {
        theEntryThatIsIt();
        neitherNameNorValueAloneIsIt();
        notInsertedTwice();
        sensitiveIsNeitherInsertedNorAnEntry();
        sizeAtMostTheCapacity();
        insertedByTheFixedTable();
        insertedByAnEntry();
        insertedByTexts();
        insertedAndRiskedOrNot();
        otherwiseByTheFixedTable();
        otherwiseByTheNameOfAnEntry();
        otherwiseByTheLastOfItsName();
        otherwiseByTexts();
        fieldsInOrder();
        DUE.done();
    }

    /** Inserts a field that no open section refers to, and the encoder hears that it has come. */
    private static void plant(FieldPack x, String name, String value) {
        Due.put(x, name, value);
        x.encode(7);
        x.deliver(7);
        x.move(0, 6000);
        x.increment();
        x.move(1, 6000);
    }

    /** q, r and s are inserted by stream 0; of these, so many are known; they are not told again. */
    private static FieldPack threeOf(int known, int blocked) {
        FieldPack x = new FieldPack(400, blocked);
        for (String name : new String[] {"q", "r", "s"}) {
            Due.put(x, name, "v");
        }
        x.encode(0);
        x.move(0, 4 * known);
        x.increment();
        x.move(1, 1);
        x.move(0, 6000);
        return x;
    }

    /** "with j the last entry that is it, if j is below K or S may risk it: that line" */
    private static void theEntryThatIsIt() {
        for (int known = 0; known <= 3; known++) {
            FieldPack x = threeOf(known, 0);
            DUE.is("K", x.told(0, 3), known);
            for (int j = 0; j < 3; j++) {
                x.field('q' + j, 'v', false);
                String what = "K = " + known + ", entry " + j;
                DUE.is(what, x.encode(1 + j), j < known ? 3 : 6);
                if (j < known) {
                    DUE.bytes(what, x, 3 + j, 2 + j, 2 - j, 130 - j);
                } else {
                    DUE.bytes(what + " may not be risked", x, 3 + j, 0, 3, 33, 'q' + j, 1, 'v');
                }
            }
            DUE.bytes("none is inserted again", x, 0);
        }
        FieldPack x = threeOf(1, 1);
        for (int j = 0; j < 3; j++) {
            x.field('q' + j, 'v', false);
        }
        x.encode(0);
        x.deliver(0);
        DUE.bytes("stream 0 may risk them", x, 2, 4, 0, 130, 129, 128);
        x.deliver(0);
        for (int j = 0; j < 3; j++) {
            DUE.is("field " + j, x.decoded(0, 1, j, 0), 'q' + j);
        }
    }

    private static void neitherNameNorValueAloneIsIt() {
        FieldPack x = new FieldPack(400, 0);
        plant(x, "q", "v");
        plant(x, "q", "w");
        plant(x, "r", "w");
        DUE.told("three that are not the same", x, 0, 3, 3, 102, 3, 0, 0);
        plant(x, "r", "w");
        DUE.told("one that is there", x, 0, 3, 3, 102, 3, 0, 0);
        plant(x, "r", "v");
        DUE.told("a fourth", x, 0, 4, 4, 136, 4, 0, 0);
        Due.put(x, "q", "w");
        x.encode(0);
        DUE.bytes("entry 1", x, 2, 3, 2, 130);
        plant(x, "r", "");
        DUE.told("a name without a value", x, 0, 5, 5, 169, 5, 1, 0);
    }

    /** "no entry being it": in one section, and when it may not be risked */
    private static void notInsertedTwice() {
        FieldPack x = new FieldPack(400, 0);
        Due.put(x, "q", "v");
        Due.put(x, "q", "v");
        x.encode(0);
        Due.put(x, "q", "v");
        x.encode(0);
        DUE.told("one entry", x, 0, 1, 1, 34, 0, 0, 0);
        DUE.bytes("one instruction", x, 0, 65, 'q', 1, 'v');
        x = new FieldPack(400, 1);
        Due.put(x, "q", "v");
        Due.put(x, "q", "v");
        x.encode(0);
        DUE.told("one entry", x, 0, 1, 1, 34, 0, 1, 1);
        DUE.bytes("both are its line", x, 2, 2, 128, 16, 16);
    }

    private static void sensitiveIsNeitherInsertedNorAnEntry() {
        FieldPack x = new FieldPack(400, 1);
        Due.putSensitive(x, "q", "v");
        x.encode(0);
        DUE.bytes("not inserted", x, 0);
        DUE.bytes("by texts", x, 2, 0, 0, 49, 'q', 1, 'v');
        plant(x, "q", "v");
        Due.putSensitive(x, "q", "v");
        x.encode(1);
        DUE.bytes("an entry is it, but only its name is taken", x, 3, 2, 0, 96, 1, 'v');
        DUE.bytes("not inserted", x, 0);
    }

    /** "(and its size is at most C)" */
    private static void sizeAtMostTheCapacity() {
        for (int capacity = 35; capacity <= 37; capacity++) {
            FieldPack x = new FieldPack(capacity, 1);
            Due.put(x, "qq", "vv");
            DUE.is("36 in " + capacity, x.encode(0), capacity < 36 ? 8 : 3);
            DUE.is("COUNT", x.told(0, 0), capacity < 36 ? 0 : 1);
        }
        for (int capacity = 47; capacity <= 49; capacity++) {
            FieldPack x = new FieldPack(capacity, 1);
            x.field(-1, -1, false);
            DUE.is("48 in " + capacity, x.encode(0), capacity < 48 ? 21 : 3);
            DUE.is("COUNT", x.told(0, 0), capacity < 48 ? 0 : 1);
        }
        for (int capacity = 32; capacity <= 34; capacity++) {
            FieldPack x = new FieldPack(capacity, 1);
            Due.put(x, "q", "");
            DUE.is("33 in " + capacity, x.encode(0), capacity < 33 ? 5 : 3);
            DUE.is("COUNT", x.told(0, 0), capacity < 33 ? 0 : 1);
        }
    }

    /** "by the least entry of the fixed table with its name", though an entry of the table has it, too */
    private static void insertedByTheFixedTable() {
        FieldPack x = new FieldPack(400, 0);
        Due.put(x, "c", "v");
        Due.put(x, "c", "w");
        Due.put(x, "h", "");
        x.encode(0);
        DUE.bytes("by the fixed table", x, 0, 194, 1, 'v', 194, 1, 'w', 199, 0);
        x.move(0, 6000);
        DUE.is("c", x.entry(1, 0, 0), 'c');
        DUE.is("c", x.entry(1, 1, 0), 'c');
        DUE.is("h", x.entry(1, 2, 0), 'h');
        DUE.is("none", x.entry(1, 2, 1), 0);
    }

    /** "else by the last entry of its name", known or not */
    private static void insertedByAnEntry() {
        FieldPack x = threeOf(0, 0);
        Due.put(x, "q", "w");
        x.encode(1);
        DUE.bytes("by an entry that is not known", x, 0, 130, 1, 'w');
        Due.put(x, "q", "x");
        x.encode(1);
        x.move(0, 3);
        DUE.bytes("by the one before", x, 0, 128, 1, 'x');
    }

    private static void insertedByTexts() {
        FieldPack x = threeOf(3, 0);
        Due.put(x, "qq", "v");
        x.encode(1);
        DUE.bytes("no entry of this name", x, 0, 66, 'q', 'q', 1, 'v');
    }

    /** "and if S may risk it, the line of the new entry" */
    private static void insertedAndRiskedOrNot() {
        FieldPack x = new FieldPack(400, 1);
        Due.put(x, "q", "v");
        x.encode(0);
        Due.put(x, "r", "v");
        x.encode(1);
        DUE.bytes("both are inserted", x, 0, 65, 'q', 1, 'v', 65, 'r', 1, 'v');
        DUE.bytes("may risk it", x, 2, 2, 128, 16);
        DUE.bytes("may not", x, 3, 0, 1, 33, 'r', 1, 'v');
    }

    /** "the line with the least entry of the fixed table with its name", whatever the table has */
    private static void otherwiseByTheFixedTable() {
        FieldPack x = new FieldPack(400, 0);
        plant(x, "c", "v");
        Due.putSensitive(x, "c", "v");
        Due.put(x, "c", "w");
        x.encode(0);
        DUE.bytes("by the fixed table", x, 2, 0, 1, 114, 1, 'v', 82, 1, 'w');
    }

    /** "else with the last entry of its name that is there, if it is below K or S may risk it" */
    private static void otherwiseByTheNameOfAnEntry() {
        for (int known = 0; known <= 3; known++) {
            FieldPack x = threeOf(known, 0);
            for (int j = 0; j < 3; j++) {
                x.field('q' + j, 'w', true);
                x.encode(1 + j);
                String what = "K = " + known + ", name of entry " + j;
                if (j < known) {
                    DUE.bytes(what, x, 3 + j, 2 + j, 2 - j, 98 - j, 1, 'w');
                } else {
                    DUE.bytes(what + " may not be risked", x, 3 + j, 0, 3, 49, 'q' + j, 1, 'w');
                }
            }
        }
        FieldPack x = threeOf(0, 1);
        Due.putSensitive(x, "s", "w");
        x.encode(0);
        Due.putSensitive(x, "s", "w");
        x.encode(1);
        DUE.bytes("stream 1 may not", x, 3, 0, 3, 49, 's', 1, 'w');
        x.deliver(0);
        DUE.bytes("stream 0 may risk it", x, 2, 4, 0, 96, 1, 'w');
    }

    /** The last of its name is asked alone: an older one that is known does not stand in for it. */
    private static void otherwiseByTheLastOfItsName() {
        FieldPack x = new FieldPack(400, 0);
        plant(x, "q", "1");
        plant(x, "q", "2");
        Due.putSensitive(x, "q", "x");
        x.encode(0);
        DUE.bytes("the last of two", x, 2, 3, 0, 96, 1, 'x');
        Due.put(x, "q", "3");
        x.encode(1);
        DUE.bytes("inserted by the last", x, 0, 128, 1, '3');
        DUE.bytes("the last is the new one, which may not be risked", x, 3, 0, 2, 33, 'q', 1, '3');
        Due.putSensitive(x, "q", "x");
        x.encode(2);
        DUE.bytes("nor now", x, 4, 0, 3, 49, 'q', 1, 'x');
        x.move(0, 6000);
        x.increment();
        x.move(1, 6000);
        Due.putSensitive(x, "q", "x");
        x.encode(3);
        DUE.bytes("it is known", x, 5, 4, 0, 96, 1, 'x');
    }

    /** "that is there": an entry that went has no name to give. */
    private static void otherwiseByTexts() {
        FieldPack x = new FieldPack(34, 0);
        plant(x, "q", "v");
        Due.putSensitive(x, "q", "w");
        x.encode(0);
        DUE.bytes("it is there", x, 2, 2, 0, 96, 1, 'w');
        x.cancel(0);
        x.move(1, 1);
        plant(x, "r", "v");
        Due.putSensitive(x, "q", "w");
        x.encode(1);
        DUE.bytes("it went", x, 3, 0, 2, 49, 'q', 1, 'w');
    }

    private static void fieldsInOrder() {
        FieldPack x = new FieldPack(400, 1);
        String names = "rqarbqsq";
        for (int f = 0; f < 8; f++) {
            x.field(names.charAt(f), 'v', f % 3 == 2);
        }
        x.encode(0);
        DUE.bytes("instructions", x, 0, 65, 'r', 1, 'v', 65, 'q', 1, 'v', 193, 1, 'v', 65, 's', 1, 'v');
        x.move(0, 6000);
        x.deliver(0);
        for (int f = 0; f < 8; f++) {
            DUE.is("name " + f, x.decoded(0, 0, f, 0), names.charAt(f));
            DUE.is("sensitive " + f, x.decoded(0, 0, f, 2), f % 3 == 2 ? 1 : 0);
        }
        DUE.is("no ninth", x.decoded(0, 0, 8, 0), -1);
    }
}
