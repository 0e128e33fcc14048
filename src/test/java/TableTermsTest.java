import java.util.ArrayDeque;
import java.util.Deque;

/** Terms: THE TABLE of an end, CAPACITY, COUNT, and the INSTRUCTIONS that fill it. */
public final class TableTermsTest {
    private static final Due DUE = new Due();

    public static void main(String[] args) {
        justFull();
        oneTooMuch();
        twoHaveToGo();
        allHaveToGo();
        tooLargeForTheTable();
        goesWithTheLastByteOfTheInstruction();
        nameOfTheNewestAndOfTheOldestEntry();
        nameOfTheLastOfSeveral();
        nameOfOneThatGoes();
        twelveAreTheMost();
        numbersGoOn();
        manySizes();
        DUE.done();
    }

    /** Inserts a field that nothing refers to, and the encoder hears that it has come. */
    private static void plant(FieldPack x, String name, String value) {
        Due.put(x, name, value);
        x.encode(7);
        x.move(0, 6000);
        x.deliver(7);
        x.increment();
        x.move(1, 6000);
    }

    /** Sizes 33 and 34, in a table of 100. */
    private static FieldPack sixtySeven() {
        FieldPack x = new FieldPack(100, 0);
        plant(x, "q", "");
        plant(x, "r", "v");
        return x;
    }

    private static void bothEnds(String what, FieldPack x, int count, int entries, int size) {
        for (int end = 0; end < 2; end++) {
            DUE.told(what, x, end, count, entries, size);
            for (int j = 0; j < count; j++) {
                boolean there = x.entry(end, j, 0) != -1;
                DUE.is(what + ": entry " + j + " of end " + end + " is there", there ? 1 : 0, j < count - entries ? 0 : 1);
            }
        }
    }

    /** "the oldest ones go as long as it would be above the CAPACITY": 100 is not above 100. */
    private static void justFull() {
        FieldPack x = sixtySeven();
        bothEnds("two", x, 2, 2, 67);
        plant(x, "s", "");
        bothEnds("just full", x, 3, 3, 100);
        x = new FieldPack(101, 0);
        plant(x, "q", "");
        plant(x, "r", "v");
        plant(x, "s", "");
        bothEnds("one byte is free", x, 3, 3, 100);
    }

    private static void oneTooMuch() {
        FieldPack x = sixtySeven();
        plant(x, "s", "v");
        bothEnds("101 is above 100", x, 3, 2, 68);
        x = new FieldPack(99, 0);
        plant(x, "q", "");
        plant(x, "r", "v");
        plant(x, "s", "");
        bothEnds("100 is above 99", x, 3, 2, 67);
    }

    private static void twoHaveToGo() {
        FieldPack x = sixtySeven();
        plant(x, "s", "");
        plant(x, "t", "");
        bothEnds("one had to go: 67 and 33 are not above 100", x, 4, 3, 100);
        x = sixtySeven();
        plant(x, "s", "");
        plant(x, "t", "v");
        bothEnds("two had to go: 67 and 34 are above 100", x, 4, 2, 67);
    }

    private static void allHaveToGo() {
        FieldPack x = new FieldPack(80, 0);
        plant(x, "q", "");
        plant(x, "r", "");
        plant(x, "eightbyt", "eightbyt");
        bothEnds("33 and 48 are above 80", x, 3, 1, 48);
        x = new FieldPack(81, 0);
        plant(x, "q", "");
        plant(x, "r", "");
        plant(x, "eightbyt", "eightbyt");
        bothEnds("33 and 48 are not above 81", x, 3, 2, 81);
        x = new FieldPack(48, 0);
        plant(x, "q", "");
        plant(x, "eightbyt", "eightbyt");
        bothEnds("only the new one", x, 2, 1, 48);
    }

    /** "(and its size is at most C)": what is larger than the whole table makes nothing go. */
    private static void tooLargeForTheTable() {
        FieldPack x = new FieldPack(40, 0);
        plant(x, "q", "");
        plant(x, "sixbytes", "v");
        bothEnds("41 is more than 40", x, 1, 1, 33);
        DUE.is("still the first", x.entry(0, 0, 0), 'q');
        plant(x, "sixbytes", "");
        bothEnds("40 is not", x, 2, 1, 40);
        DUE.is("the other one", x.entry(1, 1, 0), Due.text("sixbytes"));
    }

    /** "does instructions as their last bytes come": so the oldest stays until then. */
    private static void goesWithTheLastByteOfTheInstruction() {
        FieldPack x = new FieldPack(34, 0);
        plant(x, "q", "v");
        Due.put(x, "r", "w");
        x.encode(0);
        DUE.told("at the encoder at once", x, 0, 2, 1, 34);
        for (int i = 0; i < 4; i++) {
            DUE.told("before byte " + i, x, 1, 1, 1, 34);
            DUE.is("the old one", x.entry(1, 0, 0), 'q');
            DUE.is("not the new one", x.entry(1, 1, 0), -1);
            x.move(0, 1);
        }
        DUE.told("behind the last byte", x, 1, 2, 1, 34);
        DUE.is("the old one is gone", x.entry(1, 0, 0), -1);
        DUE.is("its value, too", x.entry(1, 0, 1), -1);
        DUE.is("the new one", x.entry(1, 1, 0), 'r');
        DUE.is("its value", x.entry(1, 1, 1), 'w');
    }

    /** Twelve entries of 33, all of them known to the encoder. */
    private static FieldPack twelve() {
        FieldPack x = new FieldPack(400, 0);
        for (int i = 0; i < 12; i++) {
            x.field('i' + i, 0, false);
        }
        x.encode(0);
        x.move(0, 6000);
        x.increment();
        x.move(1, 6000);
        return x;
    }

    /** "1 0 NUMBER ( 6, COUNT - 1 - j )" */
    private static void nameOfTheNewestAndOfTheOldestEntry() {
        for (int j = 0; j < 12; j++) {
            FieldPack x = twelve();
            x.field('i' + j, 'v', false);
            x.encode(1);
            DUE.bytes("name of entry " + j, x, 0, 128 + 11 - j, 1, 'v');
            x.move(0, 6000);
            bothEnds("a thirteenth by entry " + j, x, 13, 12, 397);
            for (int end = 0; end < 2; end++) {
                DUE.is("its name", x.entry(end, 12, 0), 'i' + j);
                DUE.is("its value", x.entry(end, 12, 1), 'v');
            }
        }
    }

    /** "else by the last entry of its name" */
    private static void nameOfTheLastOfSeveral() {
        FieldPack x = new FieldPack(400, 0);
        plant(x, "q", "1");
        plant(x, "r", "1");
        plant(x, "q", "2");
        plant(x, "r", "2");
        plant(x, "s", "2");
        Due.put(x, "q", "3");
        x.encode(0);
        DUE.bytes("by entry 2 of 5", x, 0, 130, 1, '3');
        Due.put(x, "q", "4");
        x.encode(0);
        DUE.is("by the newest", x.look(0, 3), 128);
    }

    /** "(even if that goes by it)" */
    private static void nameOfOneThatGoes() {
        FieldPack x = new FieldPack(68, 0);
        plant(x, "q", "1");
        plant(x, "r", "1");
        Due.put(x, "q", "2");
        x.encode(0);
        DUE.bytes("by entry 0, which goes", x, 0, 129, 1, '2');
        DUE.is("gone at the encoder", x.entry(0, 0, 0), -1);
        x.move(0, 6000);
        bothEnds("two are left", x, 3, 2, 68);
        DUE.is("its name came", x.entry(1, 2, 0), 'q');
        x.increment();
        x.move(1, 6000);
        Due.put(x, "r", "2");
        Due.put(x, "s", "2");
        x.encode(0);
        DUE.bytes("by entry 1, which goes; none of that name", x, 0, 129, 1, '2', 65, 's', 1, '2');
        x.move(0, 6000);
        bothEnds("two others", x, 5, 2, 68);
        DUE.is("a name that had to be told again", x.entry(1, 4, 0), 's');
    }

    private static void twelveAreTheMost() {
        FieldPack x = twelve();
        bothEnds("twelve", x, 12, 12, 396);
        plant(x, "z", "");
        bothEnds("a thirteenth", x, 13, 12, 396);
        DUE.is("the first is gone", x.entry(0, 0, 0), -1);
        DUE.is("the second is there", x.entry(0, 1, 0), 'j');
        DUE.is("the newest", x.entry(0, 12, 0), 'z');
    }

    /** "entries numbered 0, 1, .. by their insertion", "COUNT of an end is how many entries were inserted" */
    private static void numbersGoOn() {
        FieldPack x = new FieldPack(33, 0);
        for (int i = 0; i < 24; i++) {
            x.field('i' + i, 0, false);
            x.encode(i % 8);
            x.move(0, 6000);
            x.increment();
            x.move(1, 6000);
            for (int end = 0; end < 2; end++) {
                DUE.told("entry " + i, x, end, i + 1, 1, 33);
                DUE.is("entry " + i + " at " + end, x.entry(end, i, 0), 'i' + i);
                DUE.is("the one before", x.entry(end, i - 1, 0), -1);
                DUE.is("the one behind", x.entry(end, i + 1, 0), -1);
            }
        }
    }

    /** Sizes of all kinds in turn, each end held against a queue of sizes. */
    private static void manySizes() {
        for (int capacity : new int[] {48, 80, 81, 82, 97, 130, 160}) {
            FieldPack x = new FieldPack(capacity, 0);
            Deque<Integer> there = new ArrayDeque<>();
            int size = 0;
            for (int i = 0; i < 26; i++) {
                int length = i * 7 % 9;
                plant(x, Character.toString('i' + i), "eightbyt".substring(0, length));
                while (size + 33 + length > capacity) {
                    size -= there.remove();
                }
                there.add(33 + length);
                size += 33 + length;
                for (int end = 0; end < 2; end++) {
                    DUE.told("capacity " + capacity + ", field " + i, x, end, i + 1, there.size(), size);
                }
            }
        }
    }
}
