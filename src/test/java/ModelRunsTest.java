import java.util.Arrays;
import java.util.Random;

/**
 * Long mixed runs, each answer held against the model; now and then all that can be asked, too, of new
 * objects that have had the same calls, for each is used for 512 calls at most.
 */
public final class ModelRunsTest {
    private static final int RUNS = 500;
    private static final int CALLS = 512;
    private static final int CALLS_BETWEEN_LOOKS = 60;
    private static final int LAST_LOOK = 420;
    private static final int[] STEADY = {0, 2, 1, 4, 3};
    private static final int[] ODD_NUMBERS =
            {-1, 8, 9, 10, 11, 12, 13, 99, 6000, 6001, 5999, Integer.MIN_VALUE, Integer.MAX_VALUE, Integer.MIN_VALUE + 1};
    private static final int[] CAPACITIES = {0, 31, 32, 33, 34, 40, 48, 63, 64, 66, 99, 150, 200, 300, 399, 400, 401, -1};

    private final Random random;
    private final Due due = new Due();
    private FieldPack x;
    private Run played;
    private Model m;
    private String at;
    private int names;
    private int values;
    private int fieldWeight;
    private int cancelWeight;
    private int streams;
    private int mostMoved;
    private final int[] weights = new int[5];
    private boolean steady;
    private int turn;
    private int lastRead;
    private int mostEntries;
    private int mostWaiting;
    private int mostCount;

    private ModelRunsTest(long seed) {
        random = new Random(seed);
    }

    public static void main(String[] args) {
        ModelRunsTest test = new ModelRunsTest(20261115L);
        int runs = args.length > 0 ? Integer.parseInt(args[0]) : RUNS;
        for (int run = 0; run < runs; run++) {
            test.run(run);
        }
        System.out.println("most entries " + test.mostEntries + ", most waiting " + test.mostWaiting
                + ", most inserted " + test.mostCount);
        test.due.done();
    }

    private void run(int run) {
        int capacity = random.nextInt(3) == 0 ? random.nextInt(420) : CAPACITIES[random.nextInt(CAPACITIES.length)];
        int blocked = random.nextInt(8) - 1;
        names = 1 + random.nextInt(random.nextInt(3) == 0 ? 24 : 10);
        values = 1 + random.nextInt(random.nextBoolean() ? 4 : 60);
        fieldWeight = 20 + random.nextInt(60);
        streams = 1 + random.nextInt(8);
        mostMoved = random.nextBoolean() ? 8 : 300;
        cancelWeight = random.nextInt(3) == 0 ? 1 : 0;
        for (int i = 0; i < weights.length; i++) {
            weights[i] = 1 + random.nextInt(random.nextInt(4) == 0 ? 60 : 12);
        }
        steady = random.nextInt(4) == 0;
        if (steady) {
            // Many fields and quick wires: only so does COUNT grow far, and B with it.
            names = random.nextBoolean() ? 1 : 24;
            values = 200;
            streams = 1;
            fieldWeight = 60 + random.nextInt(20);
            mostMoved = 300;
        }
        x = new FieldPack(capacity, blocked);
        played = new Run(capacity, blocked);
        m = new Model(capacity, blocked);
        lastRead = -1;
        turn = 0;
        for (int call = 0; call < CALLS; call++) {
            at = "run " + run + " (" + capacity + ", " + blocked + ") call " + call + ": ";
            if (random.nextInt(12) == 0) {
                ask();
            } else {
                step();
            }
            if (call % CALLS_BETWEEN_LOOKS == 0 && call <= LAST_LOOK) {
                compare();
            }
            mostEntries = Math.max(mostEntries, m.told(0, 1));
            mostWaiting = Math.max(mostWaiting, m.told(1, 3));
            mostCount = Math.max(mostCount, m.told(0, 0));
        }
    }

    private void play(String what, Run.Call call, long want) {
        due.is(at + what, call.on(x), want);
        played.then(call);
    }

    private void ask() {
        int a = few();
        int b = few();
        int c = few();
        int d = few();
        switch (random.nextInt(6)) {
            case 0 -> play("waiting" + Arrays.asList(a), p -> p.waiting(a), m.waiting(a));
            case 1 -> play("look" + Arrays.asList(a, b), p -> p.look(a, b), m.look(a, b));
            case 2 -> play("told" + Arrays.asList(a, b), p -> p.told(a, b), m.told(a, b));
            case 3 -> {
                int j = random.nextBoolean() ? b : m.told(random.nextInt(2), 0) - b;
                play("entry" + Arrays.asList(a, j, c), p -> p.entry(a, j, c), m.entry(a, j, c));
            }
            case 4 -> play("sections" + Arrays.asList(a), p -> p.sections(a), m.sections(a));
            default -> play("decoded" + Arrays.asList(a, b, c, d), p -> p.decoded(a, b, c, d), m.decoded(a, b, c, d));
        }
    }

    /** A small number more often than not, for each argument of a call that asks. */
    private int few() {
        return random.nextInt(20) == 0 ? odd() : random.nextInt(random.nextBoolean() ? 3 : 10);
    }

    private void step() {
        if (random.nextInt(100) < fieldWeight) {
            field();
            return;
        }
        int stream = random.nextInt(40) == 0 ? odd() : random.nextInt(streams);
        int n = random.nextInt(30) == 0 ? odd() : steady ? mostMoved : random.nextInt(mostMoved);
        switch (kind()) {
            case 0 -> play("encode(" + stream + ")", p -> p.encode(stream), m.encode(stream));
            case 1 -> play("deliver(" + stream + ")", p -> p.deliver(stream), m.deliver(stream));
            case 2 -> play("move(0, " + n + ")", p -> p.move(0, n), m.move(0, n));
            case 3 -> play("move(1, " + n + ")", p -> p.move(1, n), m.move(1, n));
            case 4 -> play("increment()", FieldPack::increment, m.increment());
            case 5 -> play("cancel(" + stream + ")", p -> p.cancel(stream), m.cancel(stream));
            default -> {
                int wire = odd();
                play("move(" + wire + ", " + n + ")", p -> p.move(wire, n), m.move(wire, n));
            }
        }
    }

    /** Which call: 0 to 4 by the run's weights, now and then 5 or 6. */
    private int kind() {
        if (random.nextInt(60) == 0) {
            return 6 - cancelWeight;
        }
        if (steady && random.nextInt(20) != 0) {
            turn = (turn + 1) % STEADY.length;
            return STEADY[turn];
        }
        int all = 0;
        for (int weight : weights) {
            all += weight;
        }
        int left = random.nextInt(all);
        int kind = 0;
        while (left >= weights[kind]) {
            left -= weights[kind];
            kind++;
        }
        return kind;
    }

    private int odd() {
        return ODD_NUMBERS[random.nextInt(ODD_NUMBERS.length)];
    }

    private void field() {
        long name = random.nextInt(60) == 0 ? oddName() : nameOf(random.nextInt(names));
        long value = random.nextInt(60) == 0 ? random.nextLong() & 0xFFFFFFFFFF00FFFFL : valueOf(random.nextInt(values));
        boolean sensitive = random.nextInt(6) == 0;
        play("field(" + name + ", " + value + ", " + sensitive + ")",
                p -> p.field(name, value, sensitive), m.field(name, value, sensitive));
    }

    private long oddName() {
        return random.nextInt(3) == 0 ? 0 : random.nextLong() << 8 * random.nextInt(3);
    }

    private static long nameOf(int i) {
        return switch (i) {
            case 0 -> 'x';
            case 1 -> 'a';
            case 2 -> 'b';
            case 3 -> -1L;
            case 4 -> Due.text("sevenby");
            case 5 -> 'h';
            case 6 -> 'i';
            case 7 -> '`';
            case 8 -> Due.text("aa");
            case 9 -> Due.text("sixbyt");
            default -> 'j' + i - 10;
        };
    }

    private static long valueOf(int i) {
        return switch (i) {
            case 0 -> 0;
            case 1 -> '1';
            case 2 -> -1L;
            case 3 -> '2';
            default -> i % 2 == 0 ? Due.text("v") * 256 + 48 + i : Due.text("longval") * 256 + 48 + i;
        };
    }

    private void same(String call, long got, long want, int... arguments) {
        if (got != want) {
            due.is(at + call + Arrays.toString(arguments), got, want);
        }
    }

    private void compare() {
        for (int wire = -1; wire <= 10; wire++) {
            int bytes = m.waiting(wire);
            same("waiting", played.asked().waiting(wire), bytes, wire);
            for (int i = -1; i <= bytes; i++) {
                same("look", played.asked().look(wire, i), m.look(wire, i), wire, i);
            }
        }
        for (int end = -1; end <= 2; end++) {
            for (int what = -1; what <= 6; what++) {
                same("told", played.asked().told(end, what), m.told(end, what), end, what);
            }
            int count = m.told(Math.max(0, Math.min(1, end)), 0);
            for (int j = count - 15; j <= count; j++) {
                for (int what = -1; what <= 2; what++) {
                    same("entry", played.asked().entry(end, j, what), m.entry(end, j, what), end, j, what);
                }
            }
        }
        compareDecoded();
    }

    private void compareDecoded() {
        int read = 0;
        for (int s = -1; s <= 8; s++) {
            same("sections", played.asked().sections(s), m.sections(s), s);
            read += m.sections(s);
        }
        if (read == lastRead) {
            return;
        }
        lastRead = read;
        for (int s = -1; s <= 8; s++) {
            for (int k = Math.max(-1, m.sections(s) - 3); k <= m.sections(s); k++) {
                for (int f = -1; f <= 12; f++) {
                    for (int what = -1; what <= 3; what++) {
                        same("decoded", played.asked().decoded(s, k, f, what), m.decoded(s, k, f, what), s, k, f, what);
                    }
                }
            }
        }
    }
}
