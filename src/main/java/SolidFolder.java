import java.util.Arrays;
import java.util.NoSuchElementException;

/**
 * Files in memory, and an archive that they can be packed into and read from.
 *
 * <p>All rows of bytes are made once, with the object: a call makes no objects.
 */
public final class SolidFolder {
    private static final int MOST_FILES = 6;
    private static final int MOST_FILE_BYTES = 200;
    private static final int MOST_ARCHIVE_BYTES = 1200;
    private static final int MOST_HEADER_BYTES = 128;
    private static final int MOST_CODERS = 4;
    private static final int MOST_STREAMS = 4;
    private static final int MOST_GIVEN = 400;
    private static final int MOST_NUMBER = 32767;

    private static final int FIRST_BYTE = 55;
    private static final int SECOND_BYTE = 122;
    private static final int CRC_PLACE = 2;
    private static final int HEADER_SIZE_PLACE = 6;

    private static final int COPY = 0;
    private static final int REPEATS = 1;
    private static final int DELTA = 2;
    private static final int BRANCH = 3;
    private static final int JOIN = 4;

    private final Row archive = new Row(MOST_ARCHIVE_BYTES);
    private final Row header = new Row(MOST_HEADER_BYTES);
    private final Row streams = new Row(MOST_ARCHIVE_BYTES);
    private final Cursor cursor = new Cursor();
    private final Graph graph = new Graph();
    private final Mill mill = new Mill();
    private FileSet held = new FileSet();
    // Files are read into this one, so that those held stay when something is wrong.
    private FileSet found = new FileSet();

    public SolidFolder() {
    }

    public int begin(int name) throws IllegalArgumentException, IllegalStateException {
        if (!isName(name) || held.find(name) >= 0) {
            throw new IllegalArgumentException("not a new name");
        }
        if (held.count >= MOST_FILES) {
            throw new IllegalStateException("no more files");
        }
        held.open(name);
        return held.count;
    }

    public int give(long bytes, int n) throws IllegalArgumentException, IllegalStateException {
        if (n < 1 || n > 8) {
            throw new IllegalArgumentException("not 1 to 8 bytes");
        }
        if (!held.hasRoom(n)) {
            throw new IllegalStateException("no file, or no room");
        }
        for (int k = n - 1; k >= 0; k--) {
            held.append((int) (bytes >>> (8 * k)) & 255);
        }
        return held.sizes[held.count - 1];
    }

    public int fill(int b, int n) throws IllegalArgumentException, IllegalStateException {
        if (!isByte(b) || n < 1 || n > MOST_FILE_BYTES) {
            throw new IllegalArgumentException("no byte, or not 1 to 200 times");
        }
        if (!held.hasRoom(n)) {
            throw new IllegalStateException("no file, or no room");
        }
        for (int k = 0; k < n; k++) {
            held.append(b);
        }
        return held.sizes[held.count - 1];
    }

    public int remove(int name) throws NoSuchElementException {
        int k = held.find(name);
        if (k < 0) {
            throw new NoSuchElementException("no file of that name");
        }
        held.drop(k);
        return held.count;
    }

    public int files() {
        return held.count;
    }

    public int about(int k, boolean size) throws IndexOutOfBoundsException {
        if (k < 0 || k >= held.count) {
            throw new IndexOutOfBoundsException("no such file");
        }
        return size ? held.sizes[k] : held.names[k];
    }

    public int at(int k, int i) throws IndexOutOfBoundsException {
        if (k < 0 || k >= held.count || i < 0 || i >= held.sizes[k]) {
            throw new IndexOutOfBoundsException("no such byte of a file");
        }
        return held.bytes[held.startOf(k) + i];
    }

    public int write(int method, int properties, int filter, int distance)
            throws IllegalArgumentException, IllegalStateException {
        if (method < 0 || method > 2 || filter < 0 || filter > 2
                || !isParameter(REPEATS, properties)
                || filter == 1 && !isParameter(DELTA, distance)) {
            throw new IllegalArgumentException("no such way of writing");
        }
        graph.lay(method, properties, filter, distance, held.total);
        streams.size = 0;
        mill.pack(graph, held.bytes, streams);
        header.size = 0;
        graph.tell(header);
        held.tell(header);
        int front = HEADER_SIZE_PLACE + (header.size < 128 ? 1 : 2);
        if (front + header.size + streams.size > MOST_ARCHIVE_BYTES) {
            throw new IllegalStateException("more than 1200 bytes");
        }
        archive.size = 0;
        archive.add(FIRST_BYTE);
        archive.add(SECOND_BYTE);
        archive.addFour(crcOf(header.bytes, 0, header.size));
        archive.addNumber(header.size);
        archive.addAll(header.bytes, header.size);
        archive.addAll(streams.bytes, streams.size);
        return archive.size;
    }

    public int read() {
        if (!hasFront()) {
            return 1;
        }
        graph.learn(cursor);
        found.learn(cursor);
        if (!cursor.isDone() || !fits()) {
            return 2;
        }
        if (!graph.isTree()) {
            return 3;
        }
        if (!mill.unpack(graph, archive.bytes, cursor.end)) {
            return 4;
        }
        if (!found.accept(mill.given[graph.main])) {
            return 5;
        }
        FileSet old = held;
        held = found;
        found = old;
        return 0;
    }

    public int length() {
        return archive.size;
    }

    public int byteAt(int k) throws IndexOutOfBoundsException {
        if (k < 0 || k >= archive.size) {
            throw new IndexOutOfBoundsException("no such byte");
        }
        return archive.bytes[k];
    }

    public void poke(int k, int b) throws IndexOutOfBoundsException, IllegalArgumentException {
        if (k < 0 || k >= archive.size) {
            throw new IndexOutOfBoundsException("no such byte");
        }
        if (!isByte(b)) {
            throw new IllegalArgumentException("no byte");
        }
        archive.bytes[k] = b;
    }

    public int put(long bytes, int n) throws IllegalArgumentException, IllegalStateException {
        if (n < 1 || n > 8) {
            throw new IllegalArgumentException("not 1 to 8 bytes");
        }
        if (archive.size + n > MOST_ARCHIVE_BYTES) {
            throw new IllegalStateException("no room");
        }
        for (int k = n - 1; k >= 0; k--) {
            archive.add((int) (bytes >>> (8 * k)) & 255);
        }
        return archive.size;
    }

    public void cut(int n) throws IllegalArgumentException {
        if (n < 0 || n > archive.size) {
            throw new IllegalArgumentException("not so many bytes");
        }
        archive.size = n;
    }

    public void seal() {
        if (findHeader()) {
            archive.setFour(CRC_PLACE, crcOf(archive.bytes, cursor.place, cursor.end - cursor.place));
        }
    }

    /** Sets the cursor to the header, if the archive has one of the size that it tells. */
    private boolean findHeader() {
        cursor.lookAt(archive.bytes, HEADER_SIZE_PLACE, archive.size);
        int size = cursor.number(0, MOST_NUMBER);
        if (cursor.failed || size > cursor.end - cursor.place) {
            return false;
        }
        cursor.end = cursor.place + size;
        return true;
    }

    private boolean hasFront() {
        return findHeader()
                && archive.bytes[0] == FIRST_BYTE
                && archive.bytes[1] == SECOND_BYTE
                && archive.four(CRC_PLACE) == crcOf(archive.bytes, cursor.place, cursor.end - cursor.place);
    }

    /** Whether the sizes that the header tells belong together, and to the bytes behind it. */
    private boolean fits() {
        return graph.packedSize() == archive.size - cursor.end
                && found.total <= MOST_FILE_BYTES
                && found.total == graph.gives[graph.main];
    }

    private static boolean isName(int name) {
        return name >= 33 && name <= 126;
    }

    private static boolean isByte(int b) {
        return b >= 0 && b <= 255;
    }

    private static boolean isParameter(int kind, int parameter) {
        if (kind == REPEATS) {
            int lc = parameter % 9;
            int lp = parameter % 45 / 9;
            return parameter >= 0 && parameter / 45 <= 4 && lc + lp <= 3;
        }
        if (kind == DELTA) {
            return parameter >= 1 && parameter <= 16;
        }
        return parameter == 0;
    }

    private static int crcOf(int[] bytes, int from, int size) {
        int r = -1;
        for (int k = from; k < from + size && k < bytes.length; k++) {
            r ^= bytes[k];
            for (int bit = 0; bit < 8; bit++) {
                r = (r & 1) == 1 ? r >>> 1 ^ 0xedb88320 : r >>> 1;
            }
        }
        return -1 - r;
    }

    /** Bytes with a limit: beyond it they are counted, so that it can be told, but not kept. */
    private static final class Row {
        final int[] bytes;
        int size;

        Row(int most) {
            bytes = new int[most];
        }

        void add(int b) {
            if (size < bytes.length) {
                bytes[size] = b;
            }
            size++;
        }

        void addAll(int[] more, int n) {
            for (int k = 0; k < n; k++) {
                add(k < more.length ? more[k] : 0);
            }
        }

        void addNumber(int v) {
            if (v >= 128) {
                add(128 + v / 256);
            }
            add(v % 256);
        }

        void addFour(int v) {
            for (int shift = 0; shift < 32; shift += 8) {
                add(v >>> shift & 255);
            }
        }

        int four(int from) {
            int v = 0;
            for (int k = 0; k < 4 && from + k < bytes.length; k++) {
                v |= bytes[from + k] << (8 * k);
            }
            return v;
        }

        void setFour(int from, int v) {
            for (int k = 0; k < 4 && from + k < bytes.length; k++) {
                bytes[from + k] = v >>> (8 * k) & 255;
            }
        }
    }

    /**
     * Reads along bytes. What is not there or out of its bounds is noted, and the least
     * allowed number told in its place, so that a header can be read on to its end.
     */
    private static final class Cursor {
        int place;
        int end;
        boolean failed;
        private int[] bytes = new int[0];

        void lookAt(int[] row, int from, int to) {
            bytes = row;
            place = from;
            end = Math.min(to, row.length);
            failed = false;
        }

        int next() {
            if (place >= end) {
                failed = true;
                return 0;
            }
            int b = bytes[place];
            place++;
            return b;
        }

        int number(int least, int most) {
            int v = next();
            if (v >= 128) {
                v = (v - 128) * 256 + next();
            }
            if (v < least || v > most) {
                failed = true;
                return least;
            }
            return v;
        }

        int four() {
            int v = 0;
            for (int shift = 0; shift < 32; shift += 8) {
                v |= next() << shift;
            }
            return v;
        }

        boolean isDone() {
            return !failed && place == end;
        }
    }

    /** Files in their order, the bytes of all of them one behind the other. */
    private static final class FileSet {
        final int[] names = new int[MOST_FILES];
        final int[] sizes = new int[MOST_FILES];
        final int[] crcs = new int[MOST_FILES];
        final int[] bytes = new int[MOST_FILE_BYTES];
        int count;
        int total;

        int find(int name) {
            for (int k = 0; k < count; k++) {
                if (names[k] == name) {
                    return k;
                }
            }
            return -1;
        }

        int startOf(int k) {
            int start = 0;
            for (int j = 0; j < k; j++) {
                start += sizes[j];
            }
            return start;
        }

        boolean hasRoom(int n) {
            return count > 0 && n <= MOST_FILE_BYTES - total;
        }

        void open(int name) {
            names[count] = name;
            sizes[count] = 0;
            count++;
        }

        void append(int b) {
            bytes[total] = b;
            total++;
            sizes[count - 1]++;
        }

        void drop(int k) {
            int start = startOf(k);
            int size = sizes[k];
            for (int j = start; j + size < total; j++) {
                bytes[j] = bytes[j + size];
            }
            total -= size;
            for (int j = k; j + 1 < count; j++) {
                names[j] = names[j + 1];
                sizes[j] = sizes[j + 1];
            }
            count--;
        }

        void tell(Row header) {
            header.addNumber(count);
            int start = 0;
            for (int k = 0; k < count; k++) {
                header.add(names[k]);
                header.addNumber(sizes[k]);
                header.addFour(crcOf(bytes, start, sizes[k]));
                start += sizes[k];
            }
        }

        void learn(Cursor header) {
            int told = header.number(0, MOST_FILES);
            count = 0;
            total = 0;
            for (int k = 0; k < told; k++) {
                int name = header.next();
                if (!isName(name) || find(name) >= 0) {
                    header.failed = true;
                }
                open(name);
                sizes[k] = header.number(0, MOST_FILE_BYTES);
                crcs[k] = header.four();
                total += sizes[k];
            }
        }

        /** Takes the bytes of all files, and tells whether their CRCs are those that were told. */
        boolean accept(int[] given) {
            System.arraycopy(given, 0, bytes, 0, total);
            int start = 0;
            for (int k = 0; k < count; k++) {
                if (crcOf(bytes, start, sizes[k]) != crcs[k]) {
                    return false;
                }
                start += sizes[k];
            }
            return true;
        }
    }

    /** What a header tells of coders and packed streams. */
    private static final class Graph {
        int coders;
        final int[] kinds = new int[MOST_CODERS];
        final int[] parameters = new int[MOST_CODERS];
        final int[] gives = new int[MOST_CODERS];
        /** Two places for each coder: the second one is for JOIN alone. */
        final int[] sources = new int[2 * MOST_CODERS];
        int streams;
        final int[] streamSizes = new int[MOST_STREAMS];
        int main;
        /** The coders, each behind the one that gets its bytes. */
        final int[] order = new int[MOST_CODERS];
        private final int[] uses = new int[MOST_CODERS + MOST_STREAMS];

        int inputs(int coder) {
            return kinds[coder] == JOIN ? 2 : 1;
        }

        int packedSize() {
            int size = 0;
            for (int s = 0; s < streams; s++) {
                size += streamSizes[s];
            }
            return size;
        }

        void lay(int method, int properties, int filter, int distance, int size) {
            int first = filter == 0 ? 0 : 1;
            coders = method == 2 ? first + 3 : first + 1;
            streams = method == 2 ? 2 : 1;
            main = 0;
            if (filter == 1) {
                layCoder(0, DELTA, distance, size, 1);
            } else if (filter == 2) {
                layCoder(0, BRANCH, 0, size, 1);
            }
            if (method == 0) {
                layCoder(first, COPY, 0, size, coders);
            } else if (method == 1) {
                layCoder(first, REPEATS, properties, size, coders);
            } else {
                layCoder(first, JOIN, 0, size, first + 1);
                sources[2 * first + 1] = first + 2;
                layCoder(first + 1, REPEATS, properties, (size + 1) / 2, coders);
                layCoder(first + 2, REPEATS, properties, size / 2, coders + 1);
            }
        }

        private void layCoder(int coder, int kind, int parameter, int size, int source) {
            kinds[coder] = kind;
            parameters[coder] = parameter;
            gives[coder] = size;
            sources[2 * coder] = source;
        }

        void tell(Row header) {
            header.addNumber(coders);
            for (int k = 0; k < coders; k++) {
                header.addNumber(kinds[k]);
                header.addNumber(parameters[k]);
            }
            header.addNumber(streams);
            for (int s = 0; s < streams; s++) {
                header.addNumber(streamSizes[s]);
            }
            for (int k = 0; k < coders; k++) {
                header.addNumber(gives[k]);
            }
            for (int k = 0; k < coders; k++) {
                for (int j = 0; j < inputs(k); j++) {
                    header.addNumber(sources[2 * k + j]);
                }
            }
            header.addNumber(main);
        }

        void learn(Cursor header) {
            coders = header.number(1, MOST_CODERS);
            for (int k = 0; k < coders; k++) {
                kinds[k] = header.number(COPY, JOIN);
                parameters[k] = header.number(0, MOST_NUMBER);
                if (!isParameter(kinds[k], parameters[k])) {
                    header.failed = true;
                }
            }
            streams = header.number(1, MOST_STREAMS);
            for (int s = 0; s < streams; s++) {
                streamSizes[s] = header.number(0, MOST_NUMBER);
            }
            for (int k = 0; k < coders; k++) {
                gives[k] = header.number(0, MOST_GIVEN);
            }
            for (int k = 0; k < coders; k++) {
                for (int j = 0; j < inputs(k); j++) {
                    sources[2 * k + j] = header.number(0, coders + streams - 1);
                }
            }
            main = header.number(0, coders - 1);
        }

        /** Whether all is bound as it must be; then the order is known, too. */
        boolean isTree() {
            countUses();
            for (int k = 0; k < coders + streams; k++) {
                if (uses[k] != (k == main ? 0 : 1)) {
                    return false;
                }
            }
            return reached() == coders;
        }

        private void countUses() {
            Arrays.fill(uses, 0);
            for (int k = 0; k < coders; k++) {
                for (int j = 0; j < inputs(k); j++) {
                    uses[sources[2 * k + j]]++;
                }
            }
        }

        /** How many coders are come to: none twice, as each has at most one use and main none. */
        private int reached() {
            order[0] = main;
            int n = 1;
            for (int seen = 0; seen < n && seen < coders; seen++) {
                int coder = order[seen];
                for (int j = 0; j < inputs(coder); j++) {
                    int source = sources[2 * coder + j];
                    if (source < coders && n < coders) {
                        order[n] = source;
                        n++;
                    }
                }
            }
            return n;
        }
    }

    /** Makes the bytes of coders out of those of packed streams, and the other way round. */
    private static final class Mill {
        /** The bytes that each coder gives. */
        final int[][] given = new int[MOST_CODERS][MOST_GIVEN];
        private final Repeats repeats = new Repeats();
        private final int[] chances = new int[Repeats.CONTEXTS];
        private final BitPutter putter = new BitPutter();
        private final BitTaker taker = new BitTaker();
        // Where the two inputs of the coder at work stand.
        private final Input one = new Input();
        private final Input two = new Input();

        boolean unpack(Graph graph, int[] archive, int streamsFrom) {
            boolean right = true;
            for (int n = graph.coders - 1; n >= 0 && right; n--) {
                int coder = graph.order[n];
                int[] out = given[coder];
                int size = graph.gives[coder];
                int parameter = graph.parameters[coder];
                find(one, graph, graph.sources[2 * coder], archive, streamsFrom);
                if (graph.kinds[coder] == REPEATS) {
                    taker.start(chances, one.bytes, one.from, one.size);
                    repeats.codeAll(taker, out, size, parameter);
                    right = taker.isDone();
                } else if (graph.kinds[coder] == JOIN) {
                    find(two, graph, graph.sources[2 * coder + 1], archive, streamsFrom);
                    right = join(out, size);
                } else if (one.size != size) {
                    right = false;
                } else {
                    System.arraycopy(one.bytes, one.from, out, 0, size);
                    filter(graph.kinds[coder], parameter, out, size);
                }
            }
            return right;
        }

        private void find(Input input, Graph graph, int source, int[] archive, int streamsFrom) {
            if (source < graph.coders) {
                input.bytes = given[source];
                input.from = 0;
                input.size = graph.gives[source];
                return;
            }
            int stream = source - graph.coders;
            input.bytes = archive;
            input.from = streamsFrom;
            for (int s = 0; s < stream; s++) {
                input.from += graph.streamSizes[s];
            }
            input.size = graph.streamSizes[stream];
        }

        private boolean join(int[] out, int size) {
            int more = one.size - two.size;
            if (one.size + two.size != size || more < 0 || more > 1) {
                return false;
            }
            for (int k = 0; k < size; k++) {
                Input input = k % 2 == 0 ? one : two;
                out[k] = input.bytes[input.from + k / 2];
            }
            return true;
        }

        private static void filter(int kind, int distance, int[] row, int size) {
            if (kind == BRANCH) {
                branch(row, size, -1);
            } else if (kind == DELTA) {
                for (int k = distance; k < size; k++) {
                    row[k] = (row[k] + row[k - distance]) & 255;
                }
            }
        }

        /** The graph is one that was laid: each coder stands before those whose bytes it gets. */
        void pack(Graph graph, int[] bytes, Row streams) {
            System.arraycopy(bytes, 0, given[0], 0, graph.gives[0]);
            int stream = 0;
            for (int coder = 0; coder < graph.coders; coder++) {
                int[] row = given[coder];
                int size = graph.gives[coder];
                int parameter = graph.parameters[coder];
                int kind = graph.kinds[coder];
                if (kind == JOIN) {
                    split(row, size, given[coder + 1], given[coder + 2]);
                } else if (kind == DELTA || kind == BRANCH) {
                    System.arraycopy(row, 0, given[coder + 1], 0, size);
                    unfilter(kind, parameter, given[coder + 1], size);
                } else {
                    int before = streams.size;
                    if (kind == REPEATS) {
                        putter.start(chances);
                        repeats.codeAll(putter, row, size, parameter);
                        putter.finish(streams);
                    } else {
                        streams.addAll(row, size);
                    }
                    graph.streamSizes[stream] = streams.size - before;
                    stream++;
                }
            }
        }

        private static void split(int[] row, int size, int[] first, int[] second) {
            for (int k = 0; k < size; k++) {
                if (k % 2 == 0) {
                    first[k / 2] = row[k];
                } else {
                    second[k / 2] = row[k];
                }
            }
        }

        private static void unfilter(int kind, int distance, int[] row, int size) {
            if (kind == BRANCH) {
                branch(row, size, 1);
            } else {
                // From the end on, as what stands before a byte is still that of the files then.
                for (int k = size - 1; k >= distance; k--) {
                    row[k] = (row[k] - row[k - distance]) & 255;
                }
            }
        }

        private static void branch(int[] row, int size, int sign) {
            for (int k = 0; k + 4 < size; k++) {
                boolean opens = row[k] == 232 || row[k] == 233;
                if (opens && (row[k + 4] == 0 || row[k + 4] == 255)) {
                    int a = row[k + 1] | row[k + 2] << 8 | row[k + 3] << 16 | row[k + 4] << 24;
                    int moved = a + sign * (k + 5);
                    row[k + 1] = moved & 255;
                    row[k + 2] = moved >>> 8 & 255;
                    row[k + 3] = moved >>> 16 & 255;
                    row[k + 4] = (moved >>> 24 & 1) * 255;
                    k += 4;
                }
            }
        }
    }

    /** Where the bytes of one input stand. */
    private static final class Input {
        int[] bytes = new int[0];
        int from;
        int size;
    }

    /**
     * Bits, put or taken. Both go through the same calls, so that what is coded is said once:
     * when bits are put, a call answers what it was told to put; when they are taken, it does
     * not look at what it was told.
     *
     * <p>One multiplication behind a bit is enough: chances stay within 31 .. 2017, so a bit
     * leaves more than 2^17 of a range that was not below 2^24.
     */
    private abstract static class BitCoder {
        static final long FULL_RANGE = 0xffffffffL;
        static final long LEAST_RANGE = 1L << 24;
        static final int FIRST_CHANCE = 1024;

        final boolean puts;
        // One row for both: bits are put or taken, never both at once.
        int[] chances = new int[0];
        long range;
        boolean wrong;

        BitCoder(boolean puts) {
            this.puts = puts;
        }

        abstract int code(int context, int bit);

        abstract int plain(int bit);

        final void restart(int[] row) {
            chances = row;
            Arrays.fill(chances, FIRST_CHANCE);
            range = FULL_RANGE;
            wrong = false;
        }

        final void adapt(int context, int bit) {
            int c = chances[context];
            chances[context] = bit == 0 ? c + (2048 - c) / 32 : c - c / 32;
        }

        final int tree(int base, int bits, int number) {
            int k = 1;
            for (int b = bits - 1; b >= 0; b--) {
                k = 2 * k + code(base + k, number >> b & 1);
            }
            return k - (1 << bits);
        }

        final int turnedTree(int base, int bits, int number) {
            int k = 1;
            int v = 0;
            for (int b = 0; b < bits; b++) {
                int bit = code(base + k, number >> b & 1);
                k = 2 * k + bit;
                v |= bit << b;
            }
            return v;
        }
    }

    private static final class BitPutter extends BitCoder {
        /** The digits of LOW above the four lowest, which are low. */
        private final int[] digits = new int[MOST_ARCHIVE_BYTES];
        private int count;
        private long low;

        BitPutter() {
            super(true);
        }

        void start(int[] chancesRow) {
            restart(chancesRow);
            low = 0;
            digits[0] = 0;
            count = 1;
        }

        int code(int context, int bit) {
            long bound = (range >>> 11) * chances[context];
            if (bit == 0) {
                range = bound;
            } else {
                grow(bound);
                range -= bound;
            }
            adapt(context, bit);
            if (range < LEAST_RANGE) {
                multiply();
            }
            return bit;
        }

        int plain(int bit) {
            range >>>= 1;
            if (bit == 1) {
                grow(range);
            }
            if (range < LEAST_RANGE) {
                multiply();
            }
            return bit;
        }

        private void grow(long by) {
            low += by;
            if (low <= FULL_RANGE) {
                return;
            }
            low &= FULL_RANGE;
            int k = Math.min(count, digits.length) - 1;
            for (; k > 0 && digits[k] == 255; k--) {
                digits[k] = 0;
            }
            digits[k]++;
        }

        private void multiply() {
            range <<= 8;
            if (count < digits.length) {
                digits[count] = (int) (low >>> 24);
            }
            count++;
            low = low << 8 & FULL_RANGE;
        }

        void finish(Row streams) {
            streams.addAll(digits, count);
            for (int shift = 24; shift >= 0; shift -= 8) {
                streams.add((int) (low >>> shift) & 255);
            }
        }
    }

    private static final class BitTaker extends BitCoder {
        private int[] bytes = new int[0];
        private int place;
        private int end;
        private long value;

        BitTaker() {
            super(false);
        }

        void start(int[] chancesRow, int[] row, int from, int size) {
            restart(chancesRow);
            bytes = row;
            place = from;
            end = Math.min(from + size, row.length);
            value = 0;
            for (int k = 0; k < 5; k++) {
                takeByte();
            }
            if (value >= range) {
                wrong = true;
            }
        }

        boolean isDone() {
            return !wrong && place == end;
        }

        int code(int context, int bit) {
            long bound = (range >>> 11) * chances[context];
            int taken = value < bound ? 0 : 1;
            if (taken == 0) {
                range = bound;
            } else {
                value -= bound;
                range -= bound;
            }
            adapt(context, taken);
            if (range < LEAST_RANGE) {
                range <<= 8;
                takeByte();
            }
            return taken;
        }

        int plain(int bit) {
            range >>>= 1;
            int taken = value < range ? 0 : 1;
            if (taken == 1) {
                value -= range;
            }
            // A halved range is rounded down: a value may stand in what got lost.
            if (value >= range) {
                wrong = true;
            }
            if (range < LEAST_RANGE) {
                range <<= 8;
                takeByte();
            }
            return taken;
        }

        private void takeByte() {
            value <<= 8;
            if (place < end) {
                value |= bytes[place];
                place++;
            } else {
                wrong = true;
            }
        }
    }

    /** The coder of repeats: what it says of bytes is put into bits or taken from them. */
    private static final class Repeats {
        private static final int BYTE = 0;
        private static final int MATCH = 1;
        private static final int SHORT = 2;
        /** Repeats of r0 .. r3 are this and the three numbers behind it. */
        private static final int REPEAT = 3;

        private static final int STATES = 12;
        private static final int POSITIONS = 16;
        private static final int LONGEST = 273;

        private static final int FIRST = 0;
        private static final int SECOND = FIRST + STATES * POSITIONS;
        private static final int THIRD = SECOND + STATES;
        private static final int FOURTH = THIRD + STATES;
        private static final int FIFTH = FOURTH + STATES * POSITIONS;
        private static final int SIXTH = FIFTH + STATES;
        private static final int LOW_LENGTHS = 2;
        private static final int MIDDLE_LENGTHS = LOW_LENGTHS + POSITIONS * 8;
        private static final int HIGH_LENGTHS = MIDDLE_LENGTHS + POSITIONS * 8;
        private static final int MATCH_LENGTHS = SIXTH + STATES;
        private static final int REPEAT_LENGTHS = MATCH_LENGTHS + HIGH_LENGTHS + 256;
        private static final int SLOTS = REPEAT_LENGTHS + HIGH_LENGTHS + 256;
        private static final int SLOT_BITS = SLOTS + 4 * 64;
        private static final int LOWEST_BITS = SLOT_BITS + 10 * 32;
        private static final int FAMILIES = LOWEST_BITS + 16;
        private static final int FAMILY = 3 * 256;
        static final int CONTEXTS = FAMILIES + 8 * FAMILY;

        private final int[] latest = new int[4];
        private int state;
        private int lc;
        private int lp;
        private int pb;
        private int[] bytes = new int[0];
        private int size;
        private int place;
        // What comes at the place.
        private int kind;
        private int length;
        private long distance;

        /** Bytes to pack are there from the beginning; those taken grow from place to place. */
        void codeAll(BitCoder bits, int[] row, int rowSize, int properties) {
            restart(row, rowSize, properties);
            // Everything that comes is one byte at least, so there are at most as many as bytes.
            for (int n = 0; n < rowSize && place < size && !bits.wrong; n++) {
                if (bits.puts) {
                    choose();
                }
                int p = place & ((1 << pb) - 1);
                kind = codeKind(bits, p);
                if (kind == BYTE) {
                    codeByte(bits);
                    continue;
                }
                if (kind == SHORT) {
                    length = 1;
                } else {
                    int lengths = kind == MATCH ? MATCH_LENGTHS : REPEAT_LENGTHS;
                    length = 2 + codeLength(bits, lengths, p, length - 2);
                }
                if (kind == MATCH) {
                    distance = 1 + codeDistance(bits, Math.min(length - 2, 3), distance - 1);
                } else {
                    distance = latest[Math.max(kind - REPEAT, 0)];
                }
                if (distance > place || length > size - place) {
                    bits.wrong = true;
                } else {
                    repeatBytes((int) distance);
                }
            }
        }

        private void restart(int[] row, int rowSize, int properties) {
            bytes = row;
            size = Math.min(rowSize, row.length);
            place = 0;
            state = 0;
            Arrays.fill(latest, 1);
            lc = properties % 9;
            lp = properties % 45 / 9;
            pb = properties / 45;
        }

        private int codeKind(BitCoder bits, int p) {
            if (bits.code(FIRST + state * POSITIONS + p, kind == BYTE ? 0 : 1) == 0) {
                return BYTE;
            }
            if (bits.code(SECOND + state, kind == MATCH ? 0 : 1) == 0) {
                return MATCH;
            }
            if (bits.code(THIRD + state, kind > REPEAT ? 1 : 0) == 0) {
                int fourth = bits.code(FOURTH + state * POSITIONS + p, kind == SHORT ? 0 : 1);
                return fourth == 0 ? SHORT : REPEAT;
            }
            if (bits.code(FIFTH + state, kind > REPEAT + 1 ? 1 : 0) == 0) {
                return REPEAT + 1;
            }
            return REPEAT + 2 + bits.code(SIXTH + state, kind > REPEAT + 2 ? 1 : 0);
        }

        private void codeByte(BitCoder bits) {
            int before = place > 0 ? bytes[place - 1] : 0;
            int family = ((place & ((1 << lp) - 1)) << lc) + (before >> (8 - lc));
            int base = FAMILIES + family * FAMILY;
            // A state from 7 on comes behind a repeat, so r0 is not above the place.
            boolean alike = state >= 7 && latest[0] <= place;
            int m = alike ? bytes[place - latest[0]] : 0;
            int k = 1;
            for (int b = 7; b >= 0; b--) {
                int hint = m >> b & 1;
                int tree = alike ? base + 256 * (1 + hint) : base;
                int bit = bits.code(tree + k, bytes[place] >> b & 1);
                alike = alike && bit == hint;
                k = 2 * k + bit;
            }
            bytes[place] = k - 256;
            place++;
            if (state < 4) {
                state = 0;
            } else {
                state -= state < 10 ? 3 : 6;
            }
        }

        private static int codeLength(BitCoder bits, int base, int p, int x) {
            if (bits.code(base, x < 8 ? 0 : 1) == 0) {
                return bits.tree(base + LOW_LENGTHS + p * 8, 3, x);
            }
            if (bits.code(base + 1, x < 16 ? 0 : 1) == 0) {
                return 8 + bits.tree(base + MIDDLE_LENGTHS + p * 8, 3, x - 8);
            }
            return 16 + bits.tree(base + HIGH_LENGTHS, 8, x - 16);
        }

        private static long codeDistance(BitCoder bits, int lengthClass, long y) {
            int slot = bits.tree(SLOTS + lengthClass * 64, 6, slotOf(y));
            if (slot < 4) {
                return slot;
            }
            int n = slot / 2;
            long v = (long) (2 + slot % 2) << (n - 1);
            if (slot < 14) {
                return v + bits.turnedTree(SLOT_BITS + (slot - 4) * 32, n - 1, (int) y);
            }
            for (int b = n - 2; b >= 4; b--) {
                v += (long) bits.plain((int) (y >> b) & 1) << b;
            }
            return v + bits.turnedTree(LOWEST_BITS, 4, (int) y);
        }

        private static int slotOf(long y) {
            if (y < 4) {
                return (int) y;
            }
            int n = 2;
            while (n < 31 && y >> (n + 1) != 0) {
                n++;
            }
            return 2 * n + (int) (y >> (n - 1) & 1);
        }

        private void repeatBytes(int d) {
            for (int k = 0; k < length; k++) {
                bytes[place] = bytes[place - d];
                place++;
            }
            int moved = kind == MATCH ? 3 : Math.max(kind - REPEAT, 0);
            for (int k = moved; k > 0; k--) {
                latest[k] = latest[k - 1];
            }
            latest[0] = d;
            if (kind == MATCH) {
                state = state < 7 ? 7 : 10;
            } else if (kind == SHORT) {
                state = state < 7 ? 9 : 11;
            } else {
                state = state < 7 ? 8 : 11;
            }
        }

        private void choose() {
            int which = 0;
            int repeated = runOf(latest[0]);
            boolean isShort = repeated >= 1;
            for (int k = 1; k < 4; k++) {
                int run = runOf(latest[k]);
                if (run > repeated) {
                    which = k;
                    repeated = run;
                }
            }
            int nearest = findNearest();
            int matched = runOf(nearest);
            if (repeated >= 2 && repeated + 1 >= matched) {
                kind = REPEAT + which;
                length = repeated;
            } else if (matched >= 3) {
                kind = MATCH;
                length = matched;
                distance = nearest;
            } else {
                kind = isShort ? SHORT : BYTE;
            }
        }

        /** The least distance that has the greatest run. */
        private int findNearest() {
            int most = Math.min(LONGEST, size - place);
            int greatest = 0;
            int nearest = 1;
            for (int d = 1; d <= place && greatest < most; d++) {
                // A greater run goes on where the greatest so far has ended: most are ruled out by that.
                if (bytes[place + greatest] == bytes[place + greatest - d]) {
                    int run = runOf(d);
                    if (run > greatest) {
                        greatest = run;
                        nearest = d;
                    }
                }
            }
            return nearest;
        }

        private int runOf(int d) {
            if (d > place) {
                return 0;
            }
            int most = Math.min(LONGEST, size - place);
            int run = 0;
            while (run < most && bytes[place + run] == bytes[place + run - d]) {
                run++;
            }
            return run;
        }
    }
}
