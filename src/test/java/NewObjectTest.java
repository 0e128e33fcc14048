/** Promise 1: a new object. */
public final class NewObjectTest {
    private static final Due DUE = new Due();

    public static void main(String[] args) {
        isEmpty();
        capacityBelowNoneIsNone();
        capacityIsKept();
        capacityIsAtMostFourHundred();
        blockedIsNoneToFour();
        DUE.done();
    }

    private static void isEmpty() {
        FieldPack x = new FieldPack(400, 4);
        DUE.told("new", x, 0, 0, 0, 0, 0, 0, 0, -1);
        DUE.told("new", x, 1, 0, 0, 0, 0, 0, -1);
        DUE.is("new: waiting(0)", x.waiting(0), 0);
        DUE.is("new: waiting(1)", x.waiting(1), 0);
        for (int s = 0; s < 8; s++) {
            DUE.is("new: waiting(2 + " + s + ")", x.waiting(2 + s), -1);
            DUE.is("new: sections(" + s + ")", x.sections(s), 0);
        }
        for (int end = 0; end < 2; end++) {
            DUE.is("new: entry(" + end + ", 0, 0)", x.entry(end, 0, 0), -1);
        }
    }

    private static void capacityBelowNoneIsNone() {
        for (int capacity : new int[] {Integer.MIN_VALUE, -1, 0, 31, 32}) {
            FieldPack x = new FieldPack(capacity, 4);
            Due.put(x, "q", "");
            DUE.is("capacity " + capacity + ": encode(0)", x.encode(0), 5);
            DUE.told("capacity " + capacity, x, 0, 0, 0, 0, 0, 0, 0);
            DUE.bytes("capacity " + capacity, x, 0);
            DUE.bytes("capacity " + capacity, x, 2, 0, 0, 33, 'q', 0);
        }
    }

    private static void capacityIsKept() {
        FieldPack x = new FieldPack(33, 4);
        Due.put(x, "q", "");
        Due.put(x, "qq", "");
        x.encode(0);
        DUE.told("capacity 33", x, 0, 1, 1, 33, 0, 1, 1);
        x = new FieldPack(65, 4);
        Due.put(x, "q", "");
        Due.put(x, "r", "");
        x.encode(0);
        DUE.told("capacity 65", x, 0, 1, 1, 33, 0, 1, 1);
        x = new FieldPack(66, 4);
        Due.put(x, "q", "");
        Due.put(x, "r", "");
        x.encode(0);
        DUE.told("capacity 66", x, 0, 2, 2, 66, 0, 1, 1);
    }

    private static void capacityIsAtMostFourHundred() {
        for (int capacity : new int[] {400, 401, Integer.MAX_VALUE}) {
            FieldPack x = new FieldPack(capacity, 4);
            for (int i = 0; i < 8; i++) {
                x.field(Due.text("eightby0") + i, Due.text("eightby0"), false);
            }
            Due.put(x, "q", "");
            x.encode(0);
            DUE.told("eight of 48, one of 33", x, 0, 8, 8, 384, 0, 1, 1);
            x = new FieldPack(capacity, 4);
            for (int i = 0; i < 12; i++) {
                x.field('i' + i, 0, false);
            }
            x.encode(0);
            DUE.told("twelve of 33", x, 0, 12, 12, 396, 0, 1, 1);
            Due.put(x, "z", "");
            x.encode(0);
            DUE.told("a thirteenth", x, 0, 12, 12, 396, 0, 1, 1);
        }
        FieldPack x = new FieldPack(401, 4);
        for (int i = 0; i < 9; i++) {
            x.field(Due.text("n0") + i, Due.text("value0"), false);
        }
        Due.put(x, "n9", "value99");
        x.encode(0);
        DUE.told("nine of 40, one of 41", x, 0, 9, 9, 360, 0, 1, 1);
        Due.put(x, "n9", "value9");
        x.encode(0);
        DUE.told("ten of 40", x, 0, 10, 10, 400, 0, 2, 1);
    }

    private static void blockedIsNoneToFour() {
        int[][] cases = {{-1, 0}, {Integer.MIN_VALUE, 0}, {0, 0}, {1, 1}, {3, 3}, {4, 4}, {5, 4}, {Integer.MAX_VALUE, 4}};
        for (int[] c : cases) {
            FieldPack x = new FieldPack(400, c[0]);
            for (int s = 0; s < 8; s++) {
                Due.put(x, "q", "v");
                x.encode(s);
            }
            DUE.told("blocked " + c[0], x, 0, 1, 1, 34, 0, c[1], c[1]);
        }
    }
}
