import java.util.Arrays;
import java.util.Random;

/** Long mixed runs, each answer and all that can be seen of the state held against the model. */
public final class ModelRunsTest {
    private static final int RUNS = 500;
    private static final int CALLS = 512;
    private static final int[] STEADY = {0, 2, 1, 4, 3};
    private static final int[] ODD_NUMBERS =
            {-1, 8, 9, 10, 11, 12, 13, 99, 6000, 6001, 5999, Integer.MIN_VALUE, Integer.MAX_VALUE, Integer.MIN_VALUE + 1};
    private static final int[] CAPACITIES = {0, 31, 32, 33, 34, 40, 48, 63, 64, 66, 99, 150, 200, 300, 399, 400, 401, -1};

    private final Random random;
    private final Due due = new Due();
    private FieldPack x;
    private Model m;
    private String at;
    private int names;
    private int values;
    private int fieldWeight;
    private int cancelWeight;
    private int streams;
    private int mostMoved;
    private final int[] weights = new int[5];
    private boolean steady;
    private int turn;
    private int lastRead;
    private int mostEntries;
    private int mostWaiting;
    private int mostCount;

    private ModelRunsTest(long seed) {
        random = new Random(seed);
    }

    public static void main(String[] args) {
        ModelRunsTest test = new ModelRunsTest(20261115L);
        int runs = args.length > 0 ? Integer.parseInt(args[0]) : RUNS;
        for (int run = 0; run < runs; run++) {
            test.run(run);
        }
        System.out.println("most entries " + test.mostEntries + ", most waiting " + test.mostWaiting
                + ", most inserted " + test.mostCount);
        test.due.done();
    }

    private void run(int run) {
        int capacity = random.nextInt(3) == 0 ? random.nextInt(420) : CAPACITIES[random.nextInt(CAPACITIES.length)];
        int blocked = random.nextInt(8) - 1;
        names = 1 + random.nextInt(random.nextInt(3) == 0 ? 24 : 10);
        values = 1 + random.nextInt(random.nextBoolean() ? 4 : 60);
        fieldWeight = 20 + random.nextInt(60);
        streams = 1 + random.nextInt(8);
        mostMoved = random.nextBoolean() ? 8 : 300;
        cancelWeight = random.nextInt(3) == 0 ? 1 : 0;
        for (int i = 0; i < weights.length; i++) {
            weights[i] = 1 + random.nextInt(random.nextInt(4) == 0 ? 60 : 12);
        }
        steady = random.nextInt(4) == 0;
        if (steady) {
            // Many fields and quick wires: only so does COUNT grow far, and B with it.
            names = random.nextBoolean() ? 1 : 24;
            values = 200;
            streams = 1;
            fieldWeight = 60 + random.nextInt(20);
            mostMoved = 300;
        }
        x = new FieldPack(capacity, blocked);
        m = new Model(capacity, blocked);
        lastRead = -1;
        turn = 0;
        for (int call = 0; call < CALLS; call++) {
            at = "run " + run + " (" + capacity + ", " + blocked + ") call " + call + ": ";
            step();
            compare();
        }
    }

    private void step() {
        if (random.nextInt(100) < fieldWeight) {
            field();
            return;
        }
        int stream = random.nextInt(40) == 0 ? odd() : random.nextInt(streams);
        int n = random.nextInt(30) == 0 ? odd() : steady ? mostMoved : random.nextInt(mostMoved);
        switch (kind()) {
            case 0 -> due.is(at + "encode(" + stream + ")", x.encode(stream), m.encode(stream));
            case 1 -> due.is(at + "deliver(" + stream + ")", x.deliver(stream), m.deliver(stream));
            case 2 -> due.is(at + "move(0, " + n + ")", x.move(0, n), m.move(0, n));
            case 3 -> due.is(at + "move(1, " + n + ")", x.move(1, n), m.move(1, n));
            case 4 -> due.is(at + "increment()", x.increment(), m.increment());
            case 5 -> due.is(at + "cancel(" + stream + ")", x.cancel(stream), m.cancel(stream));
            default -> {
                int wire = odd();
                due.is(at + "move(" + wire + ", " + n + ")", x.move(wire, n), m.move(wire, n));
            }
        }
    }

    /** Which call: 0 to 4 by the run's weights, now and then 5 or 6. */
    private int kind() {
        if (random.nextInt(60) == 0) {
            return 6 - cancelWeight;
        }
        if (steady && random.nextInt(20) != 0) {
            turn = (turn + 1) % STEADY.length;
            return STEADY[turn];
        }
        int all = 0;
        for (int weight : weights) {
            all += weight;
        }
        int left = random.nextInt(all);
        int kind = 0;
        while (left >= weights[kind]) {
            left -= weights[kind];
            kind++;
        }
        return kind;
    }

    private int odd() {
        return ODD_NUMBERS[random.nextInt(ODD_NUMBERS.length)];
    }

    private void field() {
        long name = nameOf(random.nextInt(names));
        long value = valueOf(random.nextInt(values));
        if (random.nextInt(60) == 0) {
            name = random.nextInt(3) == 0 ? 0 : random.nextLong() << 8 * random.nextInt(3);
        }
        if (random.nextInt(60) == 0) {
            value = random.nextLong() & 0xFFFFFFFFFF00FFFFL;
        }
        boolean sensitive = random.nextInt(6) == 0;
        due.is(at + "field(" + name + ", " + value + ", " + sensitive + ")",
                x.field(name, value, sensitive), m.field(name, value, sensitive));
    }

    private static long nameOf(int i) {
        return switch (i) {
            case 0 -> 'x';
            case 1 -> 'a';
            case 2 -> 'b';
            case 3 -> -1L;
            case 4 -> Due.text("sevenby");
            case 5 -> 'h';
            case 6 -> 'i';
            case 7 -> '`';
            case 8 -> Due.text("aa");
            case 9 -> Due.text("sixbyt");
            default -> 'j' + i - 10;
        };
    }

    private static long valueOf(int i) {
        return switch (i) {
            case 0 -> 0;
            case 1 -> '1';
            case 2 -> -1L;
            case 3 -> '2';
            default -> i % 2 == 0 ? Due.text("v") * 256 + 48 + i : Due.text("longval") * 256 + 48 + i;
        };
    }

    private void same(String call, long got, long want, int... arguments) {
        if (got != want) {
            due.is(at + call + Arrays.toString(arguments), got, want);
        }
    }

    private void compare() {
        for (int wire = -1; wire <= 10; wire++) {
            int bytes = m.waiting(wire);
            same("waiting", x.waiting(wire), bytes, wire);
            for (int i = -1; i <= bytes; i++) {
                same("look", x.look(wire, i), m.look(wire, i), wire, i);
            }
        }
        for (int end = -1; end <= 2; end++) {
            for (int what = -1; what <= 6; what++) {
                same("told", x.told(end, what), m.told(end, what), end, what);
            }
            int count = m.told(Math.max(0, Math.min(1, end)), 0);
            for (int j = count - 15; j <= count; j++) {
                for (int what = -1; what <= 2; what++) {
                    same("entry", x.entry(end, j, what), m.entry(end, j, what), end, j, what);
                }
            }
        }
        compareDecoded();
        mostEntries = Math.max(mostEntries, m.told(0, 1));
        mostWaiting = Math.max(mostWaiting, m.told(1, 3));
        mostCount = Math.max(mostCount, m.told(0, 0));
    }

    private void compareDecoded() {
        int read = 0;
        for (int s = -1; s <= 8; s++) {
            same("sections", x.sections(s), m.sections(s), s);
            read += m.sections(s);
        }
        if (read == lastRead) {
            return;
        }
        lastRead = read;
        for (int s = -1; s <= 8; s++) {
            for (int k = Math.max(-1, m.sections(s) - 9); k <= m.sections(s); k++) {
                for (int f = -1; f <= 12; f++) {
                    for (int what = -1; what <= 3; what++) {
                        same("decoded", x.decoded(s, k, f, what), m.decoded(s, k, f, what), s, k, f, what);
                    }
                }
            }
        }
    }
}
