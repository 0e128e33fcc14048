/** Promise 2: field. */
public final class FieldTest {
    private static final Due DUE = new Due();

    public static void main(String[] args) {
        countsUpToTwelve();
        refusesWrongTexts();
        takesLongTexts();
        DUE.done();
    }

    private static void countsUpToTwelve() {
        FieldPack x = new FieldPack(200, 1);
        for (int i = 1; i <= 12; i++) {
            DUE.is("field " + i, x.field('a', i, i % 2 == 0), i);
        }
        DUE.is("a thirteenth field", x.field('a', 0, false), -1);
        DUE.is("encode(9)", x.encode(9), -1);
        DUE.is("still twelve", x.field('a', 0, false), -1);
        DUE.is("encode(0) takes them", x.encode(0) > 0 ? 1 : 0, 1);
        DUE.is("the first again", x.field('a', 0, false), 1);
    }

    private static void refusesWrongTexts() {
        FieldPack x = new FieldPack(200, 1);
        DUE.is("no name", x.field(0, 'v', false), -1);
        DUE.is("name ends in 0", x.field(0x6100, 'v', false), -1);
        DUE.is("0 within the name", x.field(0x610061, 'v', false), -1);
        DUE.is("only the first byte of the name", x.field(0x6100000000000000L, 'v', false), -1);
        DUE.is("0 behind the first byte of eight", x.field(0xFF00FFFFFFFFFFFFL, 'v', false), -1);
        DUE.is("value ends in 0", x.field('n', 256, false), -1);
        DUE.is("0 within the value", x.field('n', 0x7600000076L, true), -1);
        DUE.is("least long as value", x.field('n', Long.MIN_VALUE, false), -1);
        DUE.is("none of these counted", x.field('n', 0, false), 1);
        DUE.is("value 1", x.field('n', 1, false), 2);
    }

    private static void takesLongTexts() {
        FieldPack x = new FieldPack(200, 1);
        DUE.is("eight bytes 255", x.field(-1L, -1L, true), 1);
        DUE.is("eight bytes", x.field(0x8001010101010101L, 0x0101010101010101L, false), 2);
        x.encode(3);
        DUE.is("deliver(3)", x.deliver(3), 0);
        x.move(0, 100);
        DUE.is("name", x.decoded(3, 0, 0, 0), -1L);
        DUE.is("value", x.decoded(3, 0, 0, 1), -1L);
        DUE.is("sensitive", x.decoded(3, 0, 0, 2), 1);
        DUE.is("name", x.decoded(3, 0, 1, 0), 0x8001010101010101L);
        DUE.is("value", x.decoded(3, 0, 1, 1), 0x0101010101010101L);
        DUE.is("not sensitive", x.decoded(3, 0, 1, 2), 0);
    }
}
