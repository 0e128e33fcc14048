import java.util.ArrayList;
import java.util.List;
import java.util.Set;
import java.util.TreeSet;

/**
 * The document once more, told another way: bytes are made from texts of bits, BUSY is asked entry
 * by entry, and the decoder reads no bytes but is handed what was meant.
 */
final class Model {
    record Entry(long name, long value) {
        int size() {
            return 32 + bytesOf(name).size() + bytesOf(value).size();
        }
    }

    record Line(long name, long value, boolean sensitive) { }

    record Instruction(Entry entry, int lastByte) { }

    static final class Sent {
        int stream;
        int r;
        Set<Integer> refers = new TreeSet<>();
        List<Line> lines = new ArrayList<>();
        List<Integer> bytes = new ArrayList<>();
    }

    static final class End {
        final List<Entry> all = new ArrayList<>();
        int gone;

        int size() {
            int size = 0;
            for (int j = gone; j < all.size(); j++) {
                size += all.get(j).size();
            }
            return size;
        }

        void insert(Entry e, int capacity) {
            while (gone < all.size() && size() + e.size() > capacity) {
                gone++;
            }
            all.add(e);
        }
    }

    final int capacity;
    final int blocked;
    final End encoder = new End();
    final End decoder = new End();
    final List<List<Integer>> wires = List.of(new ArrayList<>(), new ArrayList<>());
    final List<Instruction> instructions = new ArrayList<>();
    final List<Runnable> told = new ArrayList<>();
    int madeBytes;
    int cameBytes;
    int made;
    int k;
    int decoderTold;
    List<Line> next = new ArrayList<>();
    final List<Sent> open = new ArrayList<>();
    final List<List<Sent>> onWire = eight();
    final List<List<Sent>> waits = eight();
    final List<List<Sent>> read = eight();
    final Set<Integer> givenUp = new TreeSet<>();

    Model(int capacity, int blocked) {
        this.capacity = Math.min(400, Math.max(0, capacity));
        this.blocked = Math.min(4, Math.max(0, blocked));
    }

    static List<List<Sent>> eight() {
        List<List<Sent>> rows = new ArrayList<>();
        for (int s = 0; s < 8; s++) {
            rows.add(new ArrayList<>());
        }
        return rows;
    }

    static List<Integer> bytesOf(long text) {
        List<Integer> bytes = new ArrayList<>();
        for (int shift = 56; shift >= 0; shift -= 8) {
            int b = (int) (text >>> shift) & 255;
            if (b != 0 || !bytes.isEmpty()) {
                bytes.add(b);
            }
        }
        return bytes;
    }

    static void number(List<Integer> to, String front, int n, int v) {
        int m = (1 << n) - 1;
        StringBuilder bits = new StringBuilder();
        String low = Integer.toBinaryString(Math.min(v, m));
        bits.append(front).append("0".repeat(n - low.length())).append(low);
        if (bits.length() != 8) {
            throw new IllegalStateException(bits.toString());
        }
        to.add(Integer.parseInt(bits.toString(), 2));
        if (v < m) {
            return;
        }
        int rest = v - m;
        while (rest > 127) {
            to.add(128 + rest % 128);
            rest = rest / 128;
        }
        to.add(rest);
    }

    static void text(List<Integer> to, String front, int n, long text) {
        number(to, front, n, bytesOf(text).size());
        to.addAll(bytesOf(text));
    }

    int field(long name, long value, boolean sensitive) {
        if (next.size() == 12 || name == 0 || bytesOf(name).contains(0) || bytesOf(value).contains(0)) {
            return -1;
        }
        next.add(new Line(name, value, sensitive));
        return next.size();
    }

    static boolean isStream(int s) {
        return s >= 0 && s <= 7;
    }

    int encode(int s) {
        if (!isStream(s) || givenUp.contains(s) || onWire.get(s).size() == 8 || made == 200
                || wires.get(0).size() > 5000) {
            return -1;
        }
        Sent sent = new Sent();
        sent.stream = s;
        int b = encoder.all.size();
        boolean mayRisk = atRisk().contains(s) || atRisk().size() < blocked;
        List<Integer> lines = new ArrayList<>();
        for (Line f : next) {
            line(f, b, mayRisk, sent, lines);
        }
        for (int j : sent.refers) {
            sent.r = Math.max(sent.r, j + 1);
        }
        number(sent.bytes, "", 8, sent.r == 0 ? 0 : sent.r % (2 * (capacity / 32)) + 1);
        if (b >= sent.r) {
            number(sent.bytes, "0", 7, b - sent.r);
        } else {
            number(sent.bytes, "1", 7, sent.r - b - 1);
        }
        sent.bytes.addAll(lines);
        if (sent.r > 0) {
            open.add(sent);
        }
        onWire.get(s).add(sent);
        next = new ArrayList<>();
        made++;
        return sent.bytes.size();
    }

    Set<Integer> atRisk() {
        Set<Integer> streams = new TreeSet<>();
        for (Sent o : open) {
            if (o.r > k) {
                streams.add(o.stream);
            }
        }
        return streams;
    }

    void line(Line f, int b, boolean mayRisk, Sent sent, List<Integer> lines) {
        int fixed = f.name >= 'a' && f.name <= 'h' ? (int) f.name - 'a' : -1;
        if (fixed >= 0 && f.value == (fixed % 2 == 1 ? '1' : 0)) {
            number(lines, "11", 6, fixed);
            sent.lines.add(new Line(f.name, f.value, false));
            return;
        }
        sent.lines.add(f);
        if (!f.sensitive) {
            int same = -1;
            for (int j = encoder.gone; j < encoder.all.size(); j++) {
                if (encoder.all.get(j).equals(new Entry(f.name, f.value))) {
                    same = j;
                }
            }
            if (same < 0 && canInsert(new Entry(f.name, f.value), sent)) {
                insert(new Entry(f.name, f.value), fixed);
                same = encoder.all.size() - 1;
            }
            if (same >= 0 && (same < k || mayRisk)) {
                if (same < b) {
                    number(lines, "10", 6, b - 1 - same);
                } else {
                    number(lines, "0001", 4, same - b);
                }
                sent.refers.add(same);
                return;
            }
        }
        String s = f.sensitive ? "1" : "0";
        int named = lastNamed(f.name);
        if (fixed >= 0) {
            number(lines, "01" + s + "1", 4, fixed);
        } else if (named >= 0 && (named < k || mayRisk)) {
            if (named < b) {
                number(lines, "01" + s + "0", 4, b - 1 - named);
            } else {
                number(lines, "0000" + s, 3, named - b);
            }
            sent.refers.add(named);
        } else {
            text(lines, "001" + s + "0", 3, f.name);
        }
        text(lines, "0", 7, f.value);
    }

    int lastNamed(long name) {
        int named = -1;
        for (int j = encoder.gone; j < encoder.all.size(); j++) {
            if (encoder.all.get(j).name == name) {
                named = j;
            }
        }
        return named;
    }

    boolean isBusy(int j, Sent making) {
        for (Sent o : open) {
            if (o.refers.contains(j)) {
                return true;
            }
        }
        return making.refers.contains(j) || j >= k;
    }

    boolean canInsert(Entry e, Sent making) {
        if (e.size() > capacity) {
            return false;
        }
        int size = encoder.size();
        for (int j = encoder.gone; j < encoder.all.size() && size + e.size() > capacity; j++) {
            if (isBusy(j, making)) {
                return false;
            }
            size -= encoder.all.get(j).size();
        }
        return true;
    }

    void insert(Entry e, int fixed) {
        List<Integer> bytes = new ArrayList<>();
        int named = lastNamed(e.name);
        if (fixed >= 0) {
            number(bytes, "11", 6, fixed);
        } else if (named >= 0) {
            number(bytes, "10", 6, encoder.all.size() - 1 - named);
        } else {
            text(bytes, "010", 5, e.name);
        }
        text(bytes, "0", 7, e.value);
        encoder.insert(e, capacity);
        wires.get(0).addAll(bytes);
        madeBytes += bytes.size();
        instructions.add(new Instruction(e, madeBytes));
    }

    int move(int wire, int n) {
        if (wire < 0 || wire > 1 || n < 0 || n > 6000) {
            return -1;
        }
        List<Integer> row = wires.get(wire);
        int moved = Math.min(n, row.size());
        row.subList(0, moved).clear();
        if (wire == 1) {
            // Streams and counts are small here, so each thing told is one byte.
            for (int i = 0; i < moved; i++) {
                told.remove(0).run();
            }
            return moved;
        }
        cameBytes += moved;
        while (!instructions.isEmpty() && instructions.get(0).lastByte <= cameBytes) {
            decoder.insert(instructions.remove(0).entry, capacity);
        }
        for (int s = 0; s < 8; s++) {
            decodeWhatCan(s);
        }
        return moved;
    }

    void tell(String front, int n, int v, Runnable atEncoder) {
        int before = wires.get(1).size();
        number(wires.get(1), front, n, v);
        if (wires.get(1).size() != before + 1) {
            throw new IllegalStateException("more than one byte told");
        }
        told.add(atEncoder);
    }

    void decodeWhatCan(int s) {
        List<Sent> row = waits.get(s);
        while (!row.isEmpty() && row.get(0).r <= decoder.all.size()) {
            Sent sent = row.remove(0);
            for (int j : sent.refers) {
                if (j < decoder.gone) {
                    throw new IllegalStateException("an entry is gone that a section refers to");
                }
            }
            read.get(s).add(sent);
            if (sent.r > 0) {
                decoderTold = Math.max(decoderTold, sent.r);
                tell("1", 7, s, () -> {
                    open.remove(sent);
                    k = Math.max(k, sent.r);
                });
            }
        }
    }

    int deliver(int s) {
        if (!isStream(s) || onWire.get(s).isEmpty() || waits.get(s).size() == 8) {
            return -1;
        }
        Sent sent = onWire.get(s).remove(0);
        waits.get(s).add(sent);
        decodeWhatCan(s);
        return read.get(s).contains(sent) ? 1 : 0;
    }

    int increment() {
        int n = decoder.all.size() - decoderTold;
        if (n > 0) {
            tell("00", 6, n, () -> k += n);
            decoderTold += n;
        }
        return n;
    }

    int cancel(int s) {
        if (!isStream(s) || !givenUp.add(s)) {
            return -1;
        }
        int gone = onWire.get(s).size() + waits.get(s).size();
        onWire.get(s).clear();
        waits.get(s).clear();
        tell("01", 6, s, () -> open.removeIf(o -> o.stream == s));
        return gone;
    }

    List<Integer> lying(int wire) {
        if (wire == 0 || wire == 1) {
            return wires.get(wire);
        }
        if (wire < 2 || wire > 9 || onWire.get(wire - 2).isEmpty()) {
            return null;
        }
        return onWire.get(wire - 2).get(0).bytes;
    }

    int waiting(int wire) {
        return lying(wire) == null ? -1 : lying(wire).size();
    }

    int look(int wire, int i) {
        List<Integer> bytes = lying(wire);
        return bytes == null || i < 0 || i >= bytes.size() ? -1 : bytes.get(i);
    }

    int told(int end, int what) {
        if (end < 0 || end > 1) {
            return -1;
        }
        End e = end == 0 ? encoder : decoder;
        int waiting = 0;
        int blockedStreams = 0;
        for (List<Sent> row : waits) {
            waiting += row.size();
            blockedStreams += row.stream().anyMatch(w -> w.r > decoder.all.size()) ? 1 : 0;
        }
        int[] answers = end == 0
                ? new int[] {e.all.size(), e.all.size() - e.gone, e.size(), k, open.size(), atRisk().size()}
                : new int[] {e.all.size(), e.all.size() - e.gone, e.size(), waiting, blockedStreams};
        return what < 0 || what >= answers.length ? -1 : answers[what];
    }

    long entry(int end, int j, int what) {
        if (end < 0 || end > 1 || what < 0 || what > 1) {
            return -1;
        }
        End e = end == 0 ? encoder : decoder;
        if (j < e.gone || j >= e.all.size()) {
            return -1;
        }
        return what == 0 ? e.all.get(j).name : e.all.get(j).value;
    }

    int sections(int s) {
        return isStream(s) ? read.get(s).size() : -1;
    }

    long decoded(int s, int k, int f, int what) {
        if (!isStream(s) || k < 0 || k >= read.get(s).size()) {
            return -1;
        }
        List<Line> lines = read.get(s).get(k).lines;
        if (f < 0 || f >= lines.size()) {
            return -1;
        }
        Line line = lines.get(f);
        return what == 0 ? line.name : what == 1 ? line.value : what == 2 ? (line.sensitive ? 1 : 0) : -1;
    }
}
