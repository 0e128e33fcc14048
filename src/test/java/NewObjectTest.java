/** Promise 1: a new object. */
public final class NewObjectTest {
    private static final Due DUE = new Due();

    public static void main(String[] args) {
        isEmpty();
        capacityBelowNoneIsNone();
        capacityIsKept();
        capacityIsAtMostFourHundred();
        blockedIsNoneToFour();
        beyondTheBoundsIsTheBound();
        withinTheBoundsIsItself();
        DUE.done();
    }

    private static void isEmpty() {
        FieldPack x = new FieldPack(400, 4);
        DUE.told("new", x, 0, 0, 0, 0, 0, 0, 0, -1);
        DUE.told("new", x, 1, 0, 0, 0, 0, 0, -1);
        DUE.is("new: waiting(0)", x.waiting(0), 0);
        DUE.is("new: waiting(1)", x.waiting(1), 0);
        for (int s = 0; s < 8; s++) {
            DUE.is("new: waiting(2 + " + s + ")", x.waiting(2 + s), -1);
            DUE.is("new: sections(" + s + ")", x.sections(s), 0);
        }
        for (int end = 0; end < 2; end++) {
            DUE.is("new: entry(" + end + ", 0, 0)", x.entry(end, 0, 0), -1);
        }
    }

    private static void capacityBelowNoneIsNone() {
        for (int capacity : new int[] {Integer.MIN_VALUE, -400, -1, 0, 1, 31, 32}) {
            FieldPack x = new FieldPack(capacity, 4);
            Due.put(x, "q", "");
            DUE.is("capacity " + capacity + ": encode(0)", x.encode(0), 5);
            DUE.told("capacity " + capacity, x, 0, 0, 0, 0, 0, 0, 0);
            DUE.bytes("capacity " + capacity, x, 0);
            DUE.bytes("capacity " + capacity, x, 2, 0, 0, 33, 'q', 0);
        }
    }

    private static void capacityIsKept() {
        FieldPack x = new FieldPack(33, 4);
        Due.put(x, "q", "");
        Due.put(x, "qq", "");
        x.encode(0);
        DUE.told("capacity 33", x, 0, 1, 1, 33, 0, 1, 1);
        x = new FieldPack(65, 4);
        Due.put(x, "q", "");
        Due.put(x, "r", "");
        x.encode(0);
        DUE.told("capacity 65", x, 0, 1, 1, 33, 0, 1, 1);
        x = new FieldPack(66, 4);
        Due.put(x, "q", "");
        Due.put(x, "r", "");
        x.encode(0);
        DUE.told("capacity 66", x, 0, 2, 2, 66, 0, 1, 1);
    }

    private static void capacityIsAtMostFourHundred() {
        for (int capacity : new int[] {400, 401, Integer.MAX_VALUE}) {
            FieldPack x = new FieldPack(capacity, 4);
            for (int i = 0; i < 8; i++) {
                x.field(Due.text("eightby0") + i, Due.text("eightby0"), false);
            }
            Due.put(x, "q", "");
            x.encode(0);
            DUE.told("eight of 48, one of 33", x, 0, 8, 8, 384, 0, 1, 1);
            x = new FieldPack(capacity, 4);
            for (int i = 0; i < 12; i++) {
                x.field('i' + i, 0, false);
            }
            x.encode(0);
            DUE.told("twelve of 33", x, 0, 12, 12, 396, 0, 1, 1);
            Due.put(x, "z", "");
            x.encode(0);
            DUE.told("a thirteenth", x, 0, 12, 12, 396, 0, 1, 1);
        }
        FieldPack x = new FieldPack(401, 4);
        for (int i = 0; i < 9; i++) {
            x.field(Due.text("n0") + i, Due.text("value0"), false);
        }
        Due.put(x, "n9", "value99");
        x.encode(0);
        DUE.told("nine of 40, one of 41", x, 0, 9, 9, 360, 0, 1, 1);
        Due.put(x, "n9", "value9");
        x.encode(0);
        DUE.told("ten of 40", x, 0, 10, 10, 400, 0, 2, 1);
    }

    private static void blockedIsNoneToFour() {
        int[][] cases = {{-1, 0}, {Integer.MIN_VALUE, 0}, {0, 0}, {1, 1}, {3, 3}, {4, 4}, {5, 4}, {Integer.MAX_VALUE, 4}};
        for (int[] c : cases) {
            FieldPack x = new FieldPack(400, c[0]);
            for (int s = 0; s < 8; s++) {
                Due.put(x, "q", "v");
                x.encode(s);
            }
            DUE.told("blocked " + c[0], x, 0, 1, 1, 34, 0, c[1], c[1]);
        }
    }

    /** Ten fields of 40 by seven streams, which only a capacity of 400 holds, and what comes of them. */
    private static String lifeOf(int capacity, int blocked) {
        Run run = new Run(capacity, blocked);
        for (int i = 0; i < 10; i++) {
            long name = Due.text("n0") + i;
            run.then(x -> x.field(name, Due.text("value0"), false)).encode(i % 7).deliver(i % 7);
        }
        return run.future();
    }

    private static void same(String what, String one, String other, boolean want) {
        DUE.is(what + " are alike", one.equals(other) ? 1 : 0, want ? 1 : 0);
    }

    /** "capacity below 0 is 0, above 400 it is 400; blocked below 0 is 0, above 4 it is 4" */
    private static void beyondTheBoundsIsTheBound() {
        for (int far : new int[] {1, 2, 1000, Integer.MAX_VALUE - 400}) {
            same("capacity -" + far + " and 0", lifeOf(-far, 2), lifeOf(0, 2), true);
            same("capacity 400 + " + far + " and 400", lifeOf(400 + far, 2), lifeOf(400, 2), true);
            same("blocked -" + far + " and 0", lifeOf(400, -far), lifeOf(400, 0), true);
            same("blocked 4 + " + far + " and 4", lifeOf(400, 4 + far), lifeOf(400, 4), true);
        }
        same("least capacity and 0", lifeOf(Integer.MIN_VALUE, 2), lifeOf(0, 2), true);
        same("least blocked and 0", lifeOf(400, Integer.MIN_VALUE), lifeOf(400, 0), true);
    }

    private static void withinTheBoundsIsItself() {
        same("capacity 399 and 400", lifeOf(399, 2), lifeOf(400, 2), false);
        same("capacity 38 and 0", lifeOf(38, 2), lifeOf(0, 2), true);
        same("capacity 40 and 0", lifeOf(40, 2), lifeOf(0, 2), false);
        for (int blocked = 0; blocked < 4; blocked++) {
            String what = "blocked " + blocked + " and one more";
            same(what, lifeOf(400, blocked), lifeOf(400, blocked + 1), false);
        }
    }
}
