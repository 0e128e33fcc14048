import java.util.ArrayList;
import java.util.List;

/**
 * Calls that are played again on new objects, whenever something is asked: so no object is used for
 * more than the 512 calls that the document speaks of, however much is asked.
 */
final class Run {
    interface Call {
        long on(FieldPack x);
    }

    private static final int MOST_CALLS = 512;

    private final int capacity;
    private final int blocked;
    private final List<Call> calls = new ArrayList<>();
    private FieldPack asked;
    private int used;

    Run(int capacity, int blocked) {
        this.capacity = capacity;
        this.blocked = blocked;
    }

    Run copy() {
        Run copy = new Run(capacity, blocked);
        copy.calls.addAll(calls);
        return copy;
    }

    Run then(Call call) {
        calls.add(call);
        asked = null;
        return this;
    }

    Run put(String name, String value) {
        return then(x -> Due.put(x, name, value));
    }

    Run putSensitive(String name, String value) {
        return then(x -> Due.putSensitive(x, name, value));
    }

    Run encode(int stream) {
        return then(x -> x.encode(stream));
    }

    Run move(int wire, int n) {
        return then(x -> x.move(wire, n));
    }

    Run deliver(int stream) {
        return then(x -> x.deliver(stream));
    }

    Run increment() {
        return then(FieldPack::increment);
    }

    Run cancel(int stream) {
        return then(x -> x.cancel(stream));
    }

    /** What this call answers behind those of the run; it does not become one of them. */
    long answer(Call call) {
        return call.on(played());
    }

    private FieldPack played() {
        if (calls.size() >= MOST_CALLS) {
            throw new IllegalStateException("a run of " + calls.size() + " calls leaves none to ask");
        }
        FieldPack x = new FieldPack(capacity, blocked);
        for (Call call : calls) {
            call.on(x);
        }
        return x;
    }

    /** For one call that only asks: such calls share an object as long as its calls last. */
    FieldPack asked() {
        if (asked == null || used == MOST_CALLS) {
            asked = played();
            used = calls.size();
        }
        used++;
        return asked;
    }

    private long ask(Call call) {
        return call.on(asked());
    }

    /** All that the calls that only ask can tell. */
    String picture() {
        StringBuilder told = new StringBuilder();
        for (int wire = 0; wire < 10; wire++) {
            int w = wire;
            long bytes = ask(x -> x.waiting(w));
            told.append("\nwire ").append(w).append(" has ").append(bytes).append(':');
            for (int i = 0; i < bytes; i++) {
                int at = i;
                told.append(' ').append(ask(x -> x.look(w, at)));
            }
        }
        for (int end = 0; end < 2; end++) {
            pictureOfEnd(told, end);
        }
        for (int stream = 0; stream < 8; stream++) {
            pictureOfStream(told, stream);
        }
        return told.toString();
    }

    private void pictureOfEnd(StringBuilder told, int end) {
        told.append("\nend ").append(end).append(':');
        for (int what = 0; what < 6; what++) {
            int w = what;
            told.append(' ').append(ask(x -> x.told(end, w)));
        }
        int count = (int) ask(x -> x.told(end, 0));
        for (int entry = Math.max(0, count - 13); entry < count; entry++) {
            int j = entry;
            told.append(' ').append(ask(x -> x.entry(end, j, 0)));
            told.append('=').append(ask(x -> x.entry(end, j, 1)));
        }
    }

    private void pictureOfStream(StringBuilder told, int stream) {
        long sections = ask(x -> x.sections(stream));
        told.append("\nstream ").append(stream).append(" has ").append(sections).append(':');
        for (int section = 0; section < sections; section++) {
            int k = section;
            told.append(" (");
            for (int field = 0; field < 12; field++) {
                int f = field;
                for (int what = 0; what < 3; what++) {
                    int w = what;
                    told.append(ask(x -> x.decoded(stream, k, f, w))).append(' ');
                }
            }
            told.append(')');
        }
    }

    /** The picture now, what calls of every kind answer from here on, and the picture then. */
    String future() {
        Run later = copy();
        StringBuilder told = new StringBuilder(picture());
        for (Call call : following()) {
            told.append("\nanswer ").append(later.answer(call));
            later.then(call);
        }
        return told.append(later.picture()).toString();
    }

    private static List<Call> following() {
        List<Call> following = new ArrayList<>();
        following.add(x -> Due.put(x, "next", "one"));
        for (int stream = 0; stream < 8; stream++) {
            int s = stream;
            following.add(x -> x.encode(s));
            following.add(x -> x.deliver(s));
        }
        following.add(x -> x.move(1, 2));
        following.add(x -> x.move(0, 6000));
        following.add(FieldPack::increment);
        following.add(x -> x.cancel(5));
        following.add(x -> x.move(1, 6000));
        return following;
    }

    /** This call, behind the calls of the run, is refused, and nothing has changed by it. */
    void refuses(Due due, String what, Call call) {
        answersWithoutChange(due, what, call, FieldPack.NONE);
    }

    void answersWithoutChange(Due due, String what, Call call, long want) {
        due.is(what, answer(call), want);
        String after = copy().then(call).future();
        due.is(what + " leaves all as it was (1: yes)", future().equals(after) ? 1 : 0, 1);
    }
}
