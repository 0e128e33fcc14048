/** Counts the answers that are not the ones that are due. */
final class Due {
    private int wrong = 0;

    void is(String call, long got, long want) {
        if (got != want) {
            wrong++;
            System.out.println(call + " answered " + got + ", due is " + want);
        }
    }

    /** The bytes that lie on a wire (0, 1) or of the next section there (2 + stream). */
    void bytes(String what, FieldPack x, int wire, int... want) {
        is(what + ": waiting(" + wire + ")", x.waiting(wire), want.length);
        for (int i = 0; i < want.length; i++) {
            is(what + ": look(" + wire + ", " + i + ")", x.look(wire, i), want[i]);
        }
        is(what + ": look behind the last", x.look(wire, want.length), -1);
    }

    /** What an end tells, from what = 0 on; behind them there is nothing. */
    void told(String what, FieldPack x, int end, int... want) {
        for (int i = 0; i < want.length; i++) {
            is(what + ": told(" + end + ", " + i + ")", x.told(end, i), want[i]);
        }
    }

    void done() {
        System.out.println(wrong == 0 ? "all answers are as due" : wrong + " answers are not as due");
        if (wrong != 0) {
            System.exit(1);
        }
    }

    /** The long that means these characters. */
    static long text(String characters) {
        long text = 0;
        for (int i = 0; i < characters.length(); i++) {
            text = text << 8 | characters.charAt(i);
        }
        return text;
    }

    static int put(FieldPack x, String name, String value) {
        return x.field(text(name), text(value), false);
    }

    static int putSensitive(FieldPack x, String name, String value) {
        return x.field(text(name), text(value), true);
    }
}
