/**
 * Every run of a few steps, each answer and all that can be asked at its end held against the model: on
 * tables so tight, and with so few streams that may be blocked, that each choice of the encoder is met.
 * The first argument says how many steps.
 */
public final class SmallRunsTest {
    private static final int STEPS = 4;
    private static final int[][] OBJECTS = {{33, 1}, {66, 0}, {66, 1}, {67, 2}, {68, 1}, {101, 0}, {101, 1}};

    // Each letter is one call; what it means stands in answer().
    private static final String[][] STEPS_OF = {
        {"x0", "y1", "Xz0", "X1", "S1", "d", "e", "i", "m", "M", "n", "c"},
        {"xX0", "y0", "Sy1", "XY1", "d", "e", "i", "M", "N", "C"},
    };

    private final Due due = new Due();
    private FieldPack x;
    private Model m;
    private String calls;

    public static void main(String[] args) {
        SmallRunsTest test = new SmallRunsTest();
        int steps = args.length > 0 ? Integer.parseInt(args[0]) : STEPS;
        long runs = 0;
        for (int[] object : OBJECTS) {
            for (String[] set : STEPS_OF) {
                runs += test.runs(object, set, steps);
            }
        }
        System.out.println(runs + " runs");
        test.due.done();
    }

    private long runs(int[] object, String[] set, int steps) {
        long all = 1;
        for (int i = 0; i < steps; i++) {
            all *= set.length;
        }
        for (long run = 0; run < all; run++) {
            x = new FieldPack(object[0], object[1]);
            m = new Model(object[0], object[1]);
            calls = "(" + object[0] + ", " + object[1] + ") ";
            long rest = run;
            for (int i = 0; i < steps; i++) {
                step(set[(int) (rest % set.length)]);
                rest /= set.length;
            }
            compare();
        }
        return all;
    }

    private void step(String letters) {
        for (int i = 0; i < letters.length(); i++) {
            calls += letters.charAt(i);
            answer(letters.charAt(i));
        }
    }

    private void answer(char letter) {
        switch (letter) {
            case 'x' -> field('x', 0, false);
            case 'X' -> field('x', 'v', false);
            case 'S' -> field('x', 's', true);
            case 'y' -> field('y', 0, false);
            case 'Y' -> field('y', 'v', false);
            case 'z' -> field('a', 'v', false);
            case '0', '1' -> same("", x.encode(letter - '0'), m.encode(letter - '0'));
            case 'd' -> same("", x.deliver(0), m.deliver(0));
            case 'e' -> same("", x.deliver(1), m.deliver(1));
            case 'i' -> same("", x.increment(), m.increment());
            case 'm' -> same("", x.move(0, 2), m.move(0, 2));
            case 'M' -> same("", x.move(0, 99), m.move(0, 99));
            case 'n' -> same("", x.move(1, 1), m.move(1, 1));
            case 'N' -> same("", x.move(1, 99), m.move(1, 99));
            case 'c' -> same("", x.cancel(0), m.cancel(0));
            case 'C' -> same("", x.cancel(1), m.cancel(1));
            default -> throw new IllegalStateException("no such letter");
        }
    }

    private void field(long name, long value, boolean sensitive) {
        same("", x.field(name, value, sensitive), m.field(name, value, sensitive));
    }

    private void same(String asked, long got, long want) {
        if (got != want) {
            due.is(calls + asked, got, want);
        }
    }

    private void compare() {
        for (int wire = 0; wire < 4; wire++) {
            int bytes = m.waiting(wire);
            same(" waiting", x.waiting(wire), bytes);
            for (int i = 0; i < bytes; i++) {
                same(" look", x.look(wire, i), m.look(wire, i));
            }
        }
        for (int end = 0; end < 2; end++) {
            for (int what = 0; what < 6; what++) {
                same(" told", x.told(end, what), m.told(end, what));
            }
            for (int j = 0; j < m.told(end, 0); j++) {
                same(" name", x.entry(end, j, 0), m.entry(end, j, 0));
                same(" value", x.entry(end, j, 1), m.entry(end, j, 1));
            }
        }
        for (int stream = 0; stream < 2; stream++) {
            same(" sections", x.sections(stream), m.sections(stream));
            for (int k = 0; k < m.sections(stream); k++) {
                compareFields(stream, k);
            }
        }
    }

    private void compareFields(int stream, int k) {
        for (int f = 0; f < 3; f++) {
            for (int what = 0; what < 3; what++) {
                same(" decoded", x.decoded(stream, k, f, what), m.decoded(stream, k, f, what));
            }
        }
    }
}
