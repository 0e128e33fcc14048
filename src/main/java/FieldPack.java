import java.util.ArrayList;
import java.util.Arrays;

/**
 * QPACK between two ends: an encoder, a decoder, and the wires between them. Bytes and sections
 * come to the other end only when they are moved or delivered.
 */
public final class FieldPack {
    public static final int NONE = -1;

    private static final int STREAMS = 8;
    private static final int MOST_CAPACITY = 400;
    private static final int MOST_BLOCKED = 4;
    private static final int MOST_FIELDS = 12;
    private static final int MOST_IN_LINE = 8;
    private static final int MOST_SECTIONS = 200;
    private static final int MOST_ON_WIRE = 5000;
    private static final int MOST_MOVED = 6000;

    private static final int TEXT_BYTES = 8;
    private static final int FIELD_COST = 32;
    // The least field has size 33, so a capacity of 400 never holds more than 12.
    private static final int SLOTS = 16;
    // Above every entry's number: what a section that refers to none has as its least.
    private static final int BEHIND_ALL = 1 << 30;
    private static final int FIXED_ENTRIES = 8;
    private static final int FIXED_FIRST_NAME = 97;
    private static final int FIXED_ODD_VALUE = 49;

    private static final int ACKNOWLEDGED = 128;
    private static final int GIVEN_UP = 64;

    private final Wire instructions;
    private final Wire back;
    private final Encoder encoder;
    private final Decoder decoder;
    private final Lane[] lanes;
    private final ArrayList<Field> next;
    private int made;

    public FieldPack(int capacity, int blocked) {
        int limit = Math.max(0, Math.min(MOST_CAPACITY, capacity));
        instructions = new Wire();
        back = new Wire();
        encoder = new Encoder(limit, Math.max(0, Math.min(MOST_BLOCKED, blocked)));
        decoder = new Decoder(limit);
        lanes = new Lane[STREAMS];
        for (int s = 0; s < STREAMS; s++) {
            lanes[s] = new Lane(s);
        }
        next = new ArrayList<Field>();
    }

    public int field(long name, long value, boolean sensitive) {
        if (next.size() >= MOST_FIELDS || name == 0 || !isText(name) || !isText(value)) {
            return NONE;
        }
        next.add(new Field(name, value, sensitive));
        return next.size();
    }

    public int encode(int stream) {
        Lane lane = laneOf(stream);
        if (lane == null || lane.givenUp || lane.onWire.size() >= MOST_IN_LINE) {
            return NONE;
        }
        if (made >= MOST_SECTIONS || instructions.left() > MOST_ON_WIRE) {
            return NONE;
        }
        Bytes section = encoder.makeSection(stream, next, instructions.bytes);
        next.clear();
        made++;
        lane.onWire.add(section);
        return section.size;
    }

    public int move(int wire, int n) {
        if (wire < 0 || wire > 1 || n < 0 || n > MOST_MOVED) {
            return NONE;
        }
        int moved = wire == 0 ? instructions.bring(n) : back.bring(n);
        if (wire == 1) {
            encoder.hear(back.reader);
            return moved;
        }
        decoder.obey(instructions.reader);
        for (int s = 0; s < STREAMS; s++) {
            decoder.release(lanes[s], back.bytes);
        }
        return moved;
    }

    public int deliver(int stream) {
        Lane lane = laneOf(stream);
        if (lane == null || lane.onWire.isEmpty() || lane.waiting.size() >= MOST_IN_LINE) {
            return NONE;
        }
        lane.waiting.add(decoder.receive(lane.onWire.remove(0)));
        decoder.release(lane, back.bytes);
        // This one is the last in line, so it was decoded only if nobody is left there.
        return lane.waiting.isEmpty() ? 1 : 0;
    }

    public int increment() {
        return decoder.tellCome(back.bytes);
    }

    public int cancel(int stream) {
        Lane lane = laneOf(stream);
        if (lane == null || lane.givenUp) {
            return NONE;
        }
        int gone = lane.onWire.size() + lane.waiting.size();
        lane.onWire.clear();
        lane.waiting.clear();
        lane.givenUp = true;
        back.bytes.putNumber(GIVEN_UP, 6, stream);
        return gone;
    }

    public int waiting(int wire) {
        if (wire == 0) {
            return instructions.left();
        }
        if (wire == 1) {
            return back.left();
        }
        Bytes section = nextSection(wire);
        return section == null ? NONE : section.size;
    }

    public int look(int wire, int i) {
        if (wire == 0) {
            return instructions.at(i);
        }
        if (wire == 1) {
            return back.at(i);
        }
        Bytes section = nextSection(wire);
        return section == null ? NONE : section.at(i);
    }

    public int told(int end, int what) {
        if (end != 0 && end != 1) {
            return NONE;
        }
        Table table = tableOf(end);
        switch (what) {
            case 0:
                return table.count;
            case 1:
                return table.count - table.first;
            case 2:
                return table.size;
            default:
                return end == 0 ? toldByEncoder(what) : toldByDecoder(what);
        }
    }

    public long entry(int end, int j, int what) {
        if (end != 0 && end != 1) {
            return NONE;
        }
        if (what == 0) {
            return tableOf(end).nameAt(j);
        }
        return what == 1 ? tableOf(end).valueAt(j) : NONE;
    }

    public int sections(int stream) {
        Lane lane = laneOf(stream);
        return lane == null ? NONE : lane.read.size();
    }

    public long decoded(int stream, int k, int f, int what) {
        Lane lane = laneOf(stream);
        if (lane == null || k < 0 || k >= lane.read.size()) {
            return NONE;
        }
        ArrayList<Field> fields = lane.read.get(k).fields;
        if (f < 0 || f >= fields.size()) {
            return NONE;
        }
        switch (what) {
            case 0:
                return fields.get(f).name;
            case 1:
                return fields.get(f).value;
            case 2:
                return fields.get(f).sensitive ? 1 : 0;
            default:
                return NONE;
        }
    }

    private Lane laneOf(int stream) {
        return stream < 0 || stream >= STREAMS ? null : lanes[stream];
    }

    private Bytes nextSection(int wire) {
        // Far below 0, wire - 2 would wrap round; such a wire is none anyway.
        Lane lane = wire < 2 ? null : laneOf(wire - 2);
        return lane == null || lane.onWire.isEmpty() ? null : lane.onWire.get(0);
    }

    private Table tableOf(int end) {
        return end == 0 ? encoder.table : decoder.table;
    }

    private int toldByEncoder(int what) {
        switch (what) {
            case 3:
                return encoder.known;
            case 4:
                return encoder.open.size();
            case 5:
                return encoder.streamsAtRisk();
            default:
                return NONE;
        }
    }

    private int toldByDecoder(int what) {
        int sections = 0;
        int streams = 0;
        for (int s = 0; s < STREAMS; s++) {
            // The first that waits is always a BLOCKED one: else it would have been decoded.
            int here = lanes[s].waiting.size();
            sections += here;
            streams += here > 0 ? 1 : 0;
        }
        if (what == 3) {
            return sections;
        }
        return what == 4 ? streams : NONE;
    }

    private static boolean isText(long text) {
        int length = lengthOf(text);
        for (int i = 0; i < length; i++) {
            if (((text >>> (8 * i)) & 255) == 0) {
                return false;
            }
        }
        return true;
    }

    private static int lengthOf(long text) {
        int length = 0;
        for (int i = 0; i < TEXT_BYTES; i++) {
            if (text >>> (8 * i) != 0) {
                length++;
            }
        }
        return length;
    }

    private static int sizeOf(long name, long value) {
        return FIELD_COST + lengthOf(name) + lengthOf(value);
    }

    private static int fixedNamed(long name) {
        long k = name - FIXED_FIRST_NAME;
        return k < 0 || k >= FIXED_ENTRIES ? NONE : (int) k;
    }

    private static long fixedValue(int k) {
        return k % 2 == 0 ? 0 : FIXED_ODD_VALUE;
    }

    private static final class Field {
        final long name;
        final long value;
        final boolean sensitive;

        Field(long name, long value, boolean sensitive) {
            this.name = name;
            this.value = value;
            this.sensitive = sensitive;
        }
    }

    /** A row of bytes that grows at its end. */
    private static final class Bytes {
        int[] row;
        int size;

        Bytes(int room) {
            row = new int[Math.max(0, room)];
        }

        int at(int i) {
            return i < 0 || i >= size ? NONE : row[i];
        }

        void put(int b) {
            if (size >= row.length) {
                row = Arrays.copyOf(row, 2 * size + 8);
            }
            row[size] = b;
            size++;
        }

        void putNumber(int front, int n, int v) {
            int most = (1 << n) - 1;
            if (v < most) {
                put(front | v);
                return;
            }
            put(front | most);
            int rest = v - most;
            for (int i = 0; i < 4 && rest >= 128; i++) {
                put(128 | (rest & 127));
                rest >>>= 7;
            }
            put(rest);
        }

        void putText(int front, int n, long text) {
            int length = lengthOf(text);
            putNumber(front, n, length);
            for (int i = length - 1; i >= 0; i--) {
                put((int) ((text >>> (8 * i)) & 255));
            }
        }

        void putAll(Bytes others) {
            for (int i = 0; i < others.size; i++) {
                put(others.at(i));
            }
        }
    }

    /** Reads numbers and texts up to an end; cut is set when more was asked for than has come. */
    private static final class Reader {
        final Bytes bytes;
        int at;
        int end;
        boolean cut;

        Reader(Bytes bytes, int end) {
            this.bytes = bytes;
            this.end = end;
        }

        int left() {
            return end - at;
        }

        int front() {
            if (at >= end) {
                cut = true;
                return 0;
            }
            return bytes.row[at];
        }

        int take() {
            if (at >= end) {
                cut = true;
                return 0;
            }
            int b = bytes.row[at];
            at++;
            return b;
        }

        int takeNumber(int n) {
            int most = (1 << n) - 1;
            int v = take() & most;
            if (v < most) {
                return v;
            }
            for (int shift = 0; shift < 28; shift += 7) {
                int b = take();
                v += (b & 127) << shift;
                if (b < 128) {
                    return v;
                }
            }
            return v;
        }

        long takeText(int n) {
            int length = Math.min(TEXT_BYTES, takeNumber(n));
            long text = 0;
            for (int i = 0; i < length; i++) {
                text = (text << 8) | take();
            }
            return text;
        }

        /** Goes back to where a whole piece begins, for when the rest of it has come. */
        void rewind(int start) {
            at = start;
            cut = false;
        }
    }

    /** Bytes in order; those below the reader's end have come to the other end. */
    private static final class Wire {
        final Bytes bytes;
        final Reader reader;

        Wire() {
            bytes = new Bytes(64);
            reader = new Reader(bytes, 0);
        }

        int left() {
            return bytes.size - reader.end;
        }

        int at(int i) {
            return i < 0 || i >= left() ? NONE : bytes.at(reader.end + i);
        }

        int bring(int n) {
            int moved = Math.min(n, left());
            reader.end += moved;
            return moved;
        }
    }

    /** Entries first .. count - 1; each lies in the slot that its number's last bits name. */
    private static final class Table {
        final int capacity;
        final long[] names;
        final long[] values;
        final int[] sizes;
        int first;
        int count;
        int size;

        Table(int capacity) {
            this.capacity = capacity;
            names = new long[SLOTS];
            values = new long[SLOTS];
            sizes = new int[SLOTS];
        }

        boolean has(int j) {
            return j >= first && j < count;
        }

        long nameAt(int j) {
            return has(j) ? names[j & (SLOTS - 1)] : NONE;
        }

        long valueAt(int j) {
            return has(j) ? values[j & (SLOTS - 1)] : NONE;
        }

        int lastNamed(long name) {
            for (int j = count - 1; j >= first; j--) {
                if (nameAt(j) == name) {
                    return j;
                }
            }
            return NONE;
        }

        int lastOf(long name, long value) {
            for (int j = count - 1; j >= first; j--) {
                if (nameAt(j) == name && valueAt(j) == value) {
                    return j;
                }
            }
            return NONE;
        }

        /** The oldest entry that stays when a field of this size is inserted. */
        int firstBeside(int fieldSize) {
            int rest = size;
            for (int j = first; j < count; j++) {
                if (rest + fieldSize <= capacity) {
                    return j;
                }
                rest -= sizes[j & (SLOTS - 1)];
            }
            return count;
        }

        void insert(long name, long value) {
            int fieldSize = sizeOf(name, value);
            int stays = firstBeside(fieldSize);
            for (int j = first; j < stays; j++) {
                size -= sizes[j & (SLOTS - 1)];
            }
            first = stays;
            int slot = count & (SLOTS - 1);
            names[slot] = name;
            values[slot] = value;
            sizes[slot] = fieldSize;
            count++;
            size += fieldSize;
        }
    }

    /** A section that refers to the table and that the encoder has heard nothing of. */
    private static final class Open {
        final int stream;
        final int required;
        final int least;

        Open(int stream, int required, int least) {
            this.stream = stream;
            this.required = required;
            this.least = least;
        }
    }

    private static final class Encoder {
        final Table table;
        final int blocked;
        final ArrayList<Open> open;
        int known;

        // Of the section that is being made:
        final Bytes lines;
        int base;
        int required;
        int least;
        boolean mayRisk;

        Encoder(int capacity, int blocked) {
            table = new Table(capacity);
            this.blocked = blocked;
            open = new ArrayList<Open>();
            lines = new Bytes(64);
        }

        Bytes makeSection(int stream, ArrayList<Field> fields, Bytes wire) {
            lines.size = 0;
            base = table.count;
            required = 0;
            least = BEHIND_ALL;
            mayRisk = isAtRisk(stream) || streamsAtRisk() < blocked;
            for (int i = 0; i < fields.size(); i++) {
                putField(fields.get(i), wire);
            }
            if (required > 0) {
                open.add(new Open(stream, required, least));
            }
            Bytes section = new Bytes(lines.size + 4);
            putFront(section);
            section.putAll(lines);
            return section;
        }

        void putFront(Bytes section) {
            int range = 2 * (table.capacity / FIELD_COST);
            section.putNumber(0, 8, required == 0 || range == 0 ? 0 : required % range + 1);
            if (base >= required) {
                section.putNumber(0, 7, base - required);
            } else {
                section.putNumber(128, 7, required - base - 1);
            }
        }

        void putField(Field field, Bytes wire) {
            int k = fixedNamed(field.name);
            if (k != NONE && fixedValue(k) == field.value) {
                lines.putNumber(192, 6, k);
                return;
            }
            if (field.sensitive) {
                putLiteral(field, k);
                return;
            }
            int j = table.lastOf(field.name, field.value);
            if (j == NONE && canInsert(field)) {
                insert(field, k, wire);
                j = table.count - 1;
            }
            if (j != NONE && mayReferTo(j)) {
                putEntry(j);
            } else {
                putLiteral(field, k);
            }
        }

        void putEntry(int j) {
            if (j < base) {
                lines.putNumber(128, 6, base - 1 - j);
            } else {
                lines.putNumber(16, 4, j - base);
            }
            noteReference(j);
        }

        void putLiteral(Field field, int k) {
            // After an insertion that may not be risked, the last of the name is the new entry.
            int j = table.lastNamed(field.name);
            int s = field.sensitive ? 1 : 0;
            if (k != NONE) {
                lines.putNumber(80 | (s << 5), 4, k);
            } else if (j != NONE && mayReferTo(j)) {
                putNameOf(j, s);
            } else {
                lines.putText(32 | (s << 4), 3, field.name);
            }
            lines.putText(0, 7, field.value);
        }

        void putNameOf(int j, int s) {
            if (j < base) {
                lines.putNumber(64 | (s << 5), 4, base - 1 - j);
            } else {
                lines.putNumber(s << 3, 3, j - base);
            }
            noteReference(j);
        }

        void noteReference(int j) {
            required = Math.max(required, j + 1);
            least = Math.min(least, j);
        }

        boolean mayReferTo(int j) {
            return j < known || mayRisk;
        }

        boolean canInsert(Field field) {
            int fieldSize = sizeOf(field.name, field.value);
            return fieldSize <= table.capacity && table.firstBeside(fieldSize) <= firstBusy();
        }

        /** Entries go oldest first, so the oldest BUSY one is all that an insertion asks for. */
        int firstBusy() {
            int first = Math.min(known, least);
            for (int i = 0; i < open.size(); i++) {
                first = Math.min(first, open.get(i).least);
            }
            return first;
        }

        void insert(Field field, int k, Bytes wire) {
            int j = table.lastNamed(field.name);
            if (k != NONE) {
                wire.putNumber(192, 6, k);
            } else if (j != NONE) {
                wire.putNumber(128, 6, table.count - 1 - j);
            } else {
                wire.putText(64, 5, field.name);
            }
            wire.putText(0, 7, field.value);
            table.insert(field.name, field.value);
        }

        boolean isAtRisk(int stream) {
            for (int i = 0; i < open.size(); i++) {
                if (open.get(i).stream == stream && open.get(i).required > known) {
                    return true;
                }
            }
            return false;
        }

        int streamsAtRisk() {
            int streams = 0;
            for (int s = 0; s < STREAMS; s++) {
                streams += isAtRisk(s) ? 1 : 0;
            }
            return streams;
        }

        void hear(Reader reader) {
            boolean whole = true;
            for (int left = reader.left(); left > 0 && whole; left--) {
                whole = hearOne(reader);
            }
        }

        /** False when there is no whole one. */
        boolean hearOne(Reader reader) {
            int start = reader.at;
            int front = reader.front();
            int number = reader.takeNumber(front >= ACKNOWLEDGED ? 7 : 6);
            if (reader.cut) {
                reader.rewind(start);
                return false;
            }
            if (front >= ACKNOWLEDGED) {
                closeOldest(number);
            } else if (front >= GIVEN_UP) {
                closeAll(number);
            } else {
                known += number;
            }
            return true;
        }

        void closeOldest(int stream) {
            for (int i = 0; i < open.size(); i++) {
                if (open.get(i).stream == stream) {
                    known = Math.max(known, open.get(i).required);
                    open.remove(i);
                    return;
                }
            }
        }

        void closeAll(int stream) {
            for (int i = open.size() - 1; i >= 0; i--) {
                if (open.get(i).stream == stream) {
                    open.remove(i);
                }
            }
        }
    }

    /** A section that has come to the decoder; it has no fields before it is decoded. */
    private static final class Section {
        final Reader reader;
        final int required;
        final ArrayList<Field> fields;

        Section(Reader reader, int required) {
            this.reader = reader;
            this.required = required;
            fields = new ArrayList<Field>();
        }
    }

    /** What there is of a stream: sections on its wire, those that wait, those decoded. */
    private static final class Lane {
        final int stream;
        final ArrayList<Bytes> onWire;
        final ArrayList<Section> waiting;
        final ArrayList<Section> read;
        boolean givenUp;

        Lane(int stream) {
            this.stream = stream;
            onWire = new ArrayList<Bytes>();
            waiting = new ArrayList<Section>();
            read = new ArrayList<Section>();
        }
    }

    private static final class Decoder {
        final Table table;
        int toldCome;

        Decoder(int capacity) {
            table = new Table(capacity);
        }

        void obey(Reader reader) {
            boolean whole = true;
            for (int left = reader.left(); left > 0 && whole; left--) {
                whole = obeyOne(reader);
            }
        }

        /** False when there is no whole one. */
        boolean obeyOne(Reader reader) {
            int start = reader.at;
            long name = takeName(reader);
            long value = reader.takeText(7);
            if (reader.cut) {
                reader.rewind(start);
                return false;
            }
            table.insert(name, value);
            return true;
        }

        long takeName(Reader reader) {
            int front = reader.front();
            if (front >= 192) {
                return FIXED_FIRST_NAME + reader.takeNumber(6);
            }
            if (front >= 128) {
                return table.nameAt(table.count - 1 - reader.takeNumber(6));
            }
            return reader.takeText(5);
        }

        Section receive(Bytes bytes) {
            Reader reader = new Reader(bytes, bytes.size);
            return new Section(reader, requiredBy(reader.takeNumber(8)));
        }

        int requiredBy(int code) {
            int half = table.capacity / FIELD_COST;
            if (code == 0 || half == 0) {
                return 0;
            }
            int least = table.count - half + 1;
            return least + Math.floorMod(code - 1 - least, 2 * half);
        }

        /** Decodes what waits in a lane, up to the first one that is BLOCKED. */
        void release(Lane lane, Bytes back) {
            for (int left = lane.waiting.size(); left > 0; left--) {
                if (lane.waiting.get(0).required > table.count) {
                    return;
                }
                Section section = lane.waiting.remove(0);
                readLines(section);
                lane.read.add(section);
                if (section.required > 0) {
                    back.putNumber(ACKNOWLEDGED, 7, lane.stream);
                    toldCome = Math.max(toldCome, section.required);
                }
            }
        }

        void readLines(Section section) {
            Reader reader = section.reader;
            boolean below = reader.front() >= 128;
            int distance = reader.takeNumber(7);
            int base = below ? section.required - distance - 1 : section.required + distance;
            for (int i = 0; i < MOST_FIELDS && reader.left() > 0; i++) {
                section.fields.add(readLine(reader, base));
            }
        }

        Field readLine(Reader reader, int base) {
            int front = reader.front();
            if (front >= 192) {
                int k = reader.takeNumber(6);
                return new Field(FIXED_FIRST_NAME + k, fixedValue(k), false);
            }
            if (front >= 128) {
                return fieldAt(base - 1 - reader.takeNumber(6));
            }
            if (front >= 64) {
                boolean fixed = (front & 16) != 0;
                int number = reader.takeNumber(4);
                long name = fixed ? FIXED_FIRST_NAME + number : table.nameAt(base - 1 - number);
                return new Field(name, reader.takeText(7), (front & 32) != 0);
            }
            if (front >= 32) {
                long name = reader.takeText(3);
                return new Field(name, reader.takeText(7), (front & 16) != 0);
            }
            if (front >= 16) {
                return fieldAt(base + reader.takeNumber(4));
            }
            long name = table.nameAt(base + reader.takeNumber(3));
            return new Field(name, reader.takeText(7), (front & 8) != 0);
        }

        Field fieldAt(int j) {
            return new Field(table.nameAt(j), table.valueAt(j), false);
        }

        int tellCome(Bytes back) {
            int come = table.count - toldCome;
            if (come > 0) {
                back.putNumber(0, 6, come);
                toldCome = table.count;
            }
            return come;
        }
    }
}
