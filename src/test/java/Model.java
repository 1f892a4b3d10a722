import java.math.BigInteger;
import java.util.ArrayList;
import java.util.HashMap;
import java.util.HashSet;
import java.util.LinkedHashMap;
import java.util.List;
import java.util.Map;
import java.util.NoSuchElementException;
import java.util.Set;

/**
 * The document once more, word by word and without any thought of speed: LOW is one great
 * number, contexts are found by what stands in the brackets. Nothing here is shared with
 * the program, so that a slip in one of them shows.
 */
final class Model {
    private static final BigInteger B256 = BigInteger.valueOf(256);

    /** Something is wrong with bytes of a coder of repeats. */
    static final class WrongBytes extends Exception {
        private static final long serialVersionUID = 1L;
    }

    // ---- bits

    static class Chances {
        private final Map<String, Integer> chances = new HashMap<>();

        int of(String context) {
            return chances.getOrDefault(context, 1024);
        }

        void adapt(String context, int bit) {
            int c = of(context);
            chances.put(context, bit == 0 ? c + (2048 - c) / 32 : c - c / 32);
        }
    }

    static final class Putter extends Chances {
        private BigInteger low = BigInteger.ZERO;
        private long range = 4294967295L;
        private int multiplied = 0;
        private boolean endsMultiplied = false;
        /** The edges that this stream has come to, so that tests know that they are there. */
        final Set<String> met = new HashSet<>();

        void bit(String context, int bit) {
            long bound = range / 2048 * of(context);
            if (bit == 0) {
                range = bound;
            } else {
                grow(bound);
                range -= bound;
            }
            adapt(context, bit);
            met.add("chance " + of(context));
            multiply("bit " + bit);
        }

        void plain(int bit) {
            range /= 2;
            if (bit == 1) {
                grow(range);
            }
            multiply("plain bit");
        }

        private void grow(long by) {
            if ((low.longValue() & 0xffffffffL) + by > 0xffffffffL) {
                met.add("carry through " + low.shiftRight(32).not().getLowestSetBit() / 8);
                met.add((low.longValue() & 0xffffffffL) + by == 0x100000000L ? "carry that leaves 0" : "carry");
            }
            low = low.add(BigInteger.valueOf(by));
            if (low.intValue() == -1) {
                met.add("four digits of 255");
            }
        }

        private void multiply(String what) {
            if (range == 1 << 24) {
                met.add(what + ", range at 2^24");
            } else if (range == (1 << 24) - 1) {
                met.add(what + ", range below 2^24");
            }
            endsMultiplied = range < 1 << 24;
            while (range < 1 << 24) {
                range *= 256;
                low = low.multiply(B256);
                multiplied++;
            }
        }

        boolean endsMultiplied() {
            return endsMultiplied;
        }

        /** LOW grows by all of the range but one, and by nothing from then on: no plain bit says that. */
        boolean putLost() {
            if (range % 2 == 0) {
                return false;
            }
            low = low.add(BigInteger.valueOf(range - 1));
            return true;
        }

        void tree(String context, int n, int number) {
            int k = 1;
            for (int b = n - 1; b >= 0; b--) {
                int bit = number >> b & 1;
                bit(context + ":" + k, bit);
                k = 2 * k + bit;
            }
        }

        void turned(String context, int n, int number) {
            int k = 1;
            for (int b = 0; b < n; b++) {
                int bit = number >> b & 1;
                bit(context + ":" + k, bit);
                k = 2 * k + bit;
            }
        }

        List<Integer> bytes() {
            return bytes(0);
        }

        long range() {
            return range;
        }

        /** As if LOW were so much more: what V is in the end. */
        List<Integer> bytes(long more) {
            List<Integer> bytes = new ArrayList<>();
            BigInteger rest = low.add(BigInteger.valueOf(more));
            for (int k = 0; k < multiplied + 5; k++) {
                bytes.add(0, rest.mod(B256).intValue());
                rest = rest.divide(B256);
            }
            if (rest.signum() != 0) {
                throw new AssertionError("more digits than bytes");
            }
            return bytes;
        }
    }

    static final class Taker extends Chances {
        private final List<Integer> bytes;
        private int used = 0;
        private BigInteger v = BigInteger.ZERO;
        private long range = 4294967295L;
        /** Whether plain bits may leave V where it must not be: for a test that they may not. */
        private final boolean lenient;

        Taker(List<Integer> bytes, boolean lenient) throws WrongBytes {
            this.bytes = bytes;
            this.lenient = lenient;
            for (int k = 0; k < 5; k++) {
                next();
            }
            mustBeBelowRange();
        }

        private void next() throws WrongBytes {
            if (used == bytes.size()) {
                throw new WrongBytes();
            }
            v = v.multiply(B256).add(BigInteger.valueOf(bytes.get(used)));
            used++;
        }

        private void mustBeBelowRange() throws WrongBytes {
            if (v.compareTo(BigInteger.valueOf(range)) >= 0) {
                throw new WrongBytes();
            }
        }

        private void multiply() throws WrongBytes {
            while (range < 1 << 24) {
                range *= 256;
                next();
            }
        }

        int bit(String context) throws WrongBytes {
            long bound = range / 2048 * of(context);
            int bit = v.compareTo(BigInteger.valueOf(bound)) < 0 ? 0 : 1;
            if (bit == 0) {
                range = bound;
            } else {
                v = v.subtract(BigInteger.valueOf(bound));
                range -= bound;
            }
            adapt(context, bit);
            multiply();
            return bit;
        }

        int plain() throws WrongBytes {
            range /= 2;
            int bit = v.compareTo(BigInteger.valueOf(range)) < 0 ? 0 : 1;
            if (bit == 1) {
                v = v.subtract(BigInteger.valueOf(range));
            }
            if (!lenient) {
                mustBeBelowRange();
            }
            multiply();
            return bit;
        }

        int tree(String context, int n) throws WrongBytes {
            int k = 1;
            for (int b = 0; b < n; b++) {
                k = 2 * k + bit(context + ":" + k);
            }
            return k - (1 << n);
        }

        int turned(String context, int n) throws WrongBytes {
            int k = 1;
            int number = 0;
            for (int b = 0; b < n; b++) {
                int bit = bit(context + ":" + k);
                k = 2 * k + bit;
                number += bit << b;
            }
            return number;
        }

        int used() {
            return used;
        }
    }

    // ---- repeats

    static final class State {
        final int lc;
        final int lp;
        final int pb;
        int state = 0;
        List<Long> r = new ArrayList<>(List.of(1L, 1L, 1L, 1L));

        State(int properties) {
            pb = properties / 45;
            lp = properties % 45 / 9;
            lc = properties % 9;
        }

        int p(int i) {
            return i % (1 << pb);
        }

        String family(List<Integer> bytes, int i) {
            int before = i == 0 ? 0 : bytes.get(i - 1);
            return "byte" + ((i % (1 << lp)) * (1 << lc) + before / (1 << (8 - lc)));
        }

        void afterByte() {
            state = state < 4 ? 0 : state < 10 ? state - 3 : state - 6;
        }

        void afterMatch(long d) {
            r.add(0, d);
            r.remove(4);
            state = state < 7 ? 7 : 10;
        }

        void afterShort() {
            state = state < 7 ? 9 : 11;
        }

        void afterRepeat(int which) {
            r.add(0, r.remove(which));
            state = state < 7 ? 8 : 11;
        }
    }

    static int slot(long y) {
        if (y < 4) {
            return (int) y;
        }
        int n = BigInteger.valueOf(y).bitLength() - 1;
        return 2 * n + (int) (y >> (n - 1) & 1);
    }

    static int run(List<Integer> bytes, int i, long d) {
        if (d > i) {
            return 0;
        }
        int run = 0;
        while (run < 273 && i + run < bytes.size()
                && bytes.get(i + run).equals(bytes.get(i + run - (int) d))) {
            run++;
        }
        return run;
    }

    static void putByte(Putter out, State s, List<Integer> bytes, int i) {
        out.bit("first" + s.state + "," + s.p(i), 0);
        String family = s.family(bytes, i);
        int number = bytes.get(i);
        int m = s.state >= 7 ? bytes.get(i - s.r.get(0).intValue()) : 0;
        boolean alike = s.state >= 7;
        int k = 1;
        for (int b = 7; b >= 0; b--) {
            int bit = number >> b & 1;
            int mBit = m >> b & 1;
            out.bit(family + (alike ? "if" + mBit : "") + ":" + k, bit);
            alike &= bit == mBit;
            k = 2 * k + bit;
        }
        s.afterByte();
    }

    static void putLength(Putter out, String who, int p, int length) {
        int x = length - 2;
        if (x < 8) {
            out.bit(who + "first", 0);
            out.tree(who + "low" + p, 3, x);
        } else if (x < 16) {
            out.bit(who + "first", 1);
            out.bit(who + "second", 0);
            out.tree(who + "middle" + p, 3, x - 8);
        } else {
            out.bit(who + "first", 1);
            out.bit(who + "second", 1);
            out.tree(who + "high", 8, x - 16);
        }
    }

    static void putDistance(Putter out, int length, long d) {
        long y = d - 1;
        int slot = slot(y);
        out.tree("slot" + Math.min(length - 2, 3), 6, slot);
        int n = slot / 2;
        if (slot >= 4 && slot <= 13) {
            out.turned("turned" + slot, n - 1, (int) (y & ((1 << (n - 1)) - 1)));
        } else if (slot > 13) {
            for (int b = n - 2; b >= 4; b--) {
                out.plain((int) (y >> b & 1));
            }
            out.turned("lowest", 4, (int) (y & 15));
        }
    }

    static void putMatch(Putter out, State s, int i, int length, long d) {
        out.bit("first" + s.state + "," + s.p(i), 1);
        out.bit("second" + s.state, 0);
        putLength(out, "match", s.p(i), length);
        putDistance(out, length, d);
        s.afterMatch(d);
    }

    static void putShort(Putter out, State s, int i) {
        out.bit("first" + s.state + "," + s.p(i), 1);
        out.bit("second" + s.state, 1);
        out.bit("third" + s.state, 0);
        out.bit("fourth" + s.state + "," + s.p(i), 0);
        s.afterShort();
    }

    static void putRepeat(Putter out, State s, int i, int which, int length) {
        out.bit("first" + s.state + "," + s.p(i), 1);
        out.bit("second" + s.state, 1);
        if (which == 0) {
            out.bit("third" + s.state, 0);
            out.bit("fourth" + s.state + "," + s.p(i), 1);
        } else {
            out.bit("third" + s.state, 1);
            out.bit("fifth" + s.state, which == 1 ? 0 : 1);
            if (which > 1) {
                out.bit("sixth" + s.state, which == 2 ? 0 : 1);
            }
        }
        putLength(out, "repeat", s.p(i), length);
        s.afterRepeat(which);
    }

    static List<Integer> pack(List<Integer> bytes, int properties) {
        return putterOf(bytes, properties).bytes();
    }

    static Putter putterOf(List<Integer> bytes, int properties) {
        Putter out = new Putter();
        State s = new State(properties);
        int i = 0;
        while (i < bytes.size()) {
            int which = 0;
            for (int k = 1; k < 4; k++) {
                if (run(bytes, i, s.r.get(k)) > run(bytes, i, s.r.get(which))) {
                    which = k;
                }
            }
            int repeated = run(bytes, i, s.r.get(which));
            int nearest = 1;
            for (int d = 2; d <= i; d++) {
                if (run(bytes, i, d) > run(bytes, i, nearest)) {
                    nearest = d;
                }
            }
            int matched = run(bytes, i, nearest);
            if (repeated >= 2 && !(repeated + 1 < matched)) {
                putRepeat(out, s, i, which, repeated);
                i += repeated;
            } else if (matched >= 3) {
                putMatch(out, s, i, matched, nearest);
                i += matched;
            } else if (run(bytes, i, s.r.get(0)) >= 1) {
                putShort(out, s, i);
                i++;
            } else {
                putByte(out, s, bytes, i);
                i++;
            }
        }
        return out;
    }

    static int takeByte(Taker in, State s, List<Integer> bytes, int i) throws WrongBytes {
        String family = s.family(bytes, i);
        int m = s.state >= 7 ? bytes.get(i - s.r.get(0).intValue()) : 0;
        boolean alike = s.state >= 7;
        int k = 1;
        for (int b = 7; b >= 0; b--) {
            int mBit = m >> b & 1;
            int bit = in.bit(family + (alike ? "if" + mBit : "") + ":" + k);
            alike &= bit == mBit;
            k = 2 * k + bit;
        }
        s.afterByte();
        return k - 256;
    }

    static int takeLength(Taker in, String who, int p) throws WrongBytes {
        if (in.bit(who + "first") == 0) {
            return 2 + in.tree(who + "low" + p, 3);
        }
        if (in.bit(who + "second") == 0) {
            return 10 + in.tree(who + "middle" + p, 3);
        }
        return 18 + in.tree(who + "high", 8);
    }

    static long takeDistance(Taker in, int length) throws WrongBytes {
        int slot = in.tree("slot" + Math.min(length - 2, 3), 6);
        if (slot < 4) {
            return 1 + slot;
        }
        int n = slot / 2;
        long y = (1L << n) + ((long) (slot % 2) << (n - 1));
        if (slot <= 13) {
            return 1 + y + in.turned("turned" + slot, n - 1);
        }
        for (int b = n - 2; b >= 4; b--) {
            y += (long) in.plain() << b;
        }
        return 1 + y + in.turned("lowest", 4);
    }

    static List<Integer> unpack(List<Integer> packed, int size, int properties) throws WrongBytes {
        Taker in = new Taker(packed, false);
        List<Integer> bytes = unpack(in, size, properties);
        if (in.used() != packed.size()) {
            throw new WrongBytes();
        }
        return bytes;
    }

    /** Does not look whether bytes are left over. */
    static List<Integer> unpack(Taker in, int size, int properties) throws WrongBytes {
        State s = new State(properties);
        List<Integer> bytes = new ArrayList<>();
        while (bytes.size() < size) {
            int i = bytes.size();
            String stateAndP = s.state + "," + s.p(i);
            int length = 1;
            if (in.bit("first" + stateAndP) == 0) {
                bytes.add(takeByte(in, s, bytes, i));
                continue;
            }
            if (in.bit("second" + s.state) == 0) {
                length = takeLength(in, "match", s.p(i));
                s.afterMatch(takeDistance(in, length));
            } else if (in.bit("third" + s.state) == 0) {
                if (in.bit("fourth" + stateAndP) == 0) {
                    s.afterShort();
                } else {
                    length = takeLength(in, "repeat", s.p(i));
                    s.afterRepeat(0);
                }
            } else {
                int which = in.bit("fifth" + s.state) == 0 ? 1 : 2 + in.bit("sixth" + s.state);
                length = takeLength(in, "repeat", s.p(i));
                s.afterRepeat(which);
            }
            long d = s.r.get(0);
            if (d > i || i + length > size) {
                throw new WrongBytes();
            }
            for (int k = 0; k < length; k++) {
                bytes.add(bytes.get(bytes.size() - (int) d));
            }
        }
        return bytes;
    }

    static boolean areProperties(int properties) {
        for (int lc = 0; lc <= 4; lc++) {
            for (int lp = 0; lp <= 4; lp++) {
                for (int pb = 0; pb <= 4; pb++) {
                    if (lc + lp <= 3 && lc + 9 * lp + 45 * pb == properties) {
                        return true;
                    }
                }
            }
        }
        return false;
    }

    // ---- the other coders

    static List<Integer> undelta(List<Integer> in, int distance) {
        List<Integer> out = new ArrayList<>();
        for (int k = 0; k < in.size(); k++) {
            out.add((in.get(k) + (k >= distance ? out.get(k - distance) : 0)) % 256);
        }
        return out;
    }

    static List<Integer> delta(List<Integer> in, int distance) {
        List<Integer> out = new ArrayList<>();
        for (int k = 0; k < in.size(); k++) {
            out.add((in.get(k) - (k >= distance ? in.get(k - distance) : 0) + 256) % 256);
        }
        return out;
    }

    static List<Integer> branch(List<Integer> in, boolean back) {
        List<Integer> out = new ArrayList<>();
        while (out.size() < in.size()) {
            int k = out.size();
            out.add(in.get(k));
            if (in.get(k) != 232 && in.get(k) != 233 || k + 4 >= in.size()) {
                continue;
            }
            if (in.get(k + 4) != 0 && in.get(k + 4) != 255) {
                continue;
            }
            long a = 0;
            for (int j = 4; j >= 1; j--) {
                a = a * 256 + in.get(k + j);
            }
            a = back ? a - k - 5 : a + k + 5;
            a = Math.floorMod(a, 1L << 32);
            for (int j = 0; j < 3; j++) {
                out.add((int) (a >> (8 * j)) & 255);
            }
            out.add((a >> 24) % 2 == 1 ? 255 : 0);
        }
        return out;
    }

    static List<Integer> join(List<Integer> first, List<Integer> second) {
        List<Integer> out = new ArrayList<>();
        for (int k = 0; k < first.size(); k++) {
            out.add(first.get(k));
            if (k < second.size()) {
                out.add(second.get(k));
            }
        }
        return out;
    }

    static List<Integer> everySecond(List<Integer> in, int from) {
        List<Integer> out = new ArrayList<>();
        for (int k = from; k < in.size(); k += 2) {
            out.add(in.get(k));
        }
        return out;
    }

    // ---- numbers and the archive

    static List<Integer> number(int v) {
        return v < 128 ? List.of(v) : List.of(128 + v / 256, v % 256);
    }

    static List<Integer> four(long v) {
        return List.of((int) (v & 255), (int) (v >> 8 & 255), (int) (v >> 16 & 255), (int) (v >> 24 & 255));
    }

    static long crc(List<Integer> bytes) {
        java.util.zip.CRC32 crc = new java.util.zip.CRC32();
        for (int b : bytes) {
            crc.update(b);
        }
        return crc.getValue();
    }

    /** A header and its streams, with everything in it free to be wrong. */
    static final class Plan {
        List<int[]> coders = new ArrayList<>();
        List<List<Integer>> streams = new ArrayList<>();
        List<Integer> gives = new ArrayList<>();
        List<Integer> sources = new ArrayList<>();
        int main = 0;
        Map<Integer, List<Integer>> files = new LinkedHashMap<>();

        List<Integer> header() {
            List<Integer> h = new ArrayList<>(number(coders.size()));
            for (int[] coder : coders) {
                h.addAll(number(coder[0]));
                h.addAll(number(coder[1]));
            }
            h.addAll(number(streams.size()));
            for (List<Integer> stream : streams) {
                h.addAll(number(stream.size()));
            }
            for (int size : gives) {
                h.addAll(number(size));
            }
            for (int source : sources) {
                h.addAll(number(source));
            }
            h.addAll(number(main));
            h.addAll(number(files.size()));
            for (Map.Entry<Integer, List<Integer>> file : files.entrySet()) {
                h.add(file.getKey());
                h.addAll(number(file.getValue().size()));
                h.addAll(four(crc(file.getValue())));
            }
            return h;
        }

        List<Integer> bytes() {
            List<Integer> header = header();
            List<Integer> all = new ArrayList<>(List.of(55, 122));
            all.addAll(four(crc(header)));
            all.addAll(number(header.size()));
            all.addAll(header);
            for (List<Integer> stream : streams) {
                all.addAll(stream);
            }
            return all;
        }
    }

    static List<Integer> together(Map<Integer, List<Integer>> files) {
        List<Integer> all = new ArrayList<>();
        for (List<Integer> bytes : files.values()) {
            all.addAll(bytes);
        }
        return all;
    }

    // ---- the object

    Map<Integer, List<Integer>> files = new LinkedHashMap<>();
    List<Integer> archive = new ArrayList<>();

    private List<Integer> last() {
        List<Integer> last = null;
        for (List<Integer> bytes : files.values()) {
            last = bytes;
        }
        return last;
    }

    int begin(int name) {
        if (name < 33 || name > 126 || files.containsKey(name)) {
            throw new IllegalArgumentException();
        }
        if (files.size() == 6) {
            throw new IllegalStateException();
        }
        files.put(name, new ArrayList<>());
        return files.size();
    }

    int give(long bytes, int n) {
        if (n < 1 || n > 8) {
            throw new IllegalArgumentException();
        }
        if (files.isEmpty() || together(files).size() + n > 200) {
            throw new IllegalStateException();
        }
        for (int k = n - 1; k >= 0; k--) {
            last().add((int) (bytes >> (8 * k) & 255));
        }
        return last().size();
    }

    int fill(int b, int n) {
        if (b < 0 || b > 255 || n < 1 || n > 200) {
            throw new IllegalArgumentException();
        }
        if (files.isEmpty() || together(files).size() + n > 200) {
            throw new IllegalStateException();
        }
        for (int k = 0; k < n; k++) {
            last().add(b);
        }
        return last().size();
    }

    int remove(int name) {
        if (files.remove(name) == null) {
            throw new NoSuchElementException();
        }
        return files.size();
    }

    int write(int method, int properties, int filter, int distance) {
        if (method < 0 || method > 2 || filter < 0 || filter > 2 || !areProperties(properties)
                || filter == 1 && (distance < 1 || distance > 16)) {
            throw new IllegalArgumentException();
        }
        Plan plan = new Plan();
        plan.files = files;
        List<Integer> bytes = together(files);
        int coders = (filter == 0 ? 0 : 1) + (method == 2 ? 3 : 1);
        if (filter != 0) {
            plan.coders.add(filter == 1 ? new int[] {2, distance} : new int[] {3, 0});
            plan.gives.add(bytes.size());
            plan.sources.add(1);
            bytes = filter == 1 ? delta(bytes, distance) : branch(bytes, false);
        }
        plan.gives.add(bytes.size());
        if (method == 0) {
            plan.coders.add(new int[] {0, 0});
            plan.streams.add(bytes);
            plan.sources.add(coders);
        } else if (method == 1) {
            plan.coders.add(new int[] {1, properties});
            plan.streams.add(pack(bytes, properties));
            plan.sources.add(coders);
        } else {
            plan.coders.add(new int[] {4, 0});
            plan.sources.addAll(List.of(coders - 2, coders - 1, coders, coders + 1));
            for (int k = 0; k < 2; k++) {
                List<Integer> half = everySecond(bytes, k);
                plan.coders.add(new int[] {1, properties});
                plan.gives.add(half.size());
                plan.streams.add(pack(half, properties));
            }
        }
        List<Integer> all = plan.bytes();
        if (all.size() > 1200) {
            throw new IllegalStateException();
        }
        archive = all;
        return archive.size();
    }

    /** Where the header begins and ends; null if the archive has none of the size that it tells. */
    private int[] headerPlace() {
        if (archive.size() < 7) {
            return null;
        }
        int from = 7;
        int size = archive.get(6);
        if (size >= 128) {
            if (archive.size() < 8) {
                return null;
            }
            from = 8;
            size = (size - 128) * 256 + archive.get(7);
        }
        return from + size > archive.size() ? null : new int[] {from, from + size};
    }

    void seal() {
        int[] place = headerPlace();
        if (place != null) {
            List<Integer> crc = four(crc(archive.subList(place[0], place[1])));
            for (int k = 0; k < 4; k++) {
                archive.set(2 + k, crc.get(k));
            }
        }
    }

    /** The header is not as said. */
    private static final class WrongHeader extends Exception {
        private static final long serialVersionUID = 1L;
    }

    private static int oneByte(List<Integer> rest) throws WrongHeader {
        if (rest.isEmpty()) {
            throw new WrongHeader();
        }
        return rest.remove(0);
    }

    private static int oneNumber(List<Integer> rest, int least, int most) throws WrongHeader {
        int v = oneByte(rest);
        v = v < 128 ? v : (v - 128) * 256 + oneByte(rest);
        if (v < least || v > most) {
            throw new WrongHeader();
        }
        return v;
    }

    private final List<int[]> kinds = new ArrayList<>();
    private final List<List<Integer>> streams = new ArrayList<>();
    private final List<Integer> gives = new ArrayList<>();
    private final List<List<Integer>> sources = new ArrayList<>();
    private int main;
    private final Map<Integer, Integer> sizes = new LinkedHashMap<>();
    private final List<List<Integer>> crcs = new ArrayList<>();

    private void learn(List<Integer> rest, List<Integer> packed) throws WrongHeader {
        kinds.clear();
        streams.clear();
        gives.clear();
        sources.clear();
        sizes.clear();
        crcs.clear();
        int c = oneNumber(rest, 1, 4);
        for (int k = 0; k < c; k++) {
            int kind = oneNumber(rest, 0, 4);
            int parameter = oneNumber(rest, 0, 32767);
            if (kind == 1 ? !areProperties(parameter)
                    : kind == 2 ? parameter < 1 || parameter > 16 : parameter != 0) {
                throw new WrongHeader();
            }
            kinds.add(new int[] {kind, parameter});
        }
        int s = oneNumber(rest, 1, 4);
        int from = 0;
        for (int k = 0; k < s; k++) {
            int size = oneNumber(rest, 0, packed.size() - from);
            streams.add(packed.subList(from, from + size));
            from += size;
        }
        if (from != packed.size()) {
            throw new WrongHeader();
        }
        for (int k = 0; k < c; k++) {
            gives.add(oneNumber(rest, 0, 400));
        }
        for (int[] kind : kinds) {
            List<Integer> its = new ArrayList<>();
            its.add(oneNumber(rest, 0, c + s - 1));
            if (kind[0] == 4) {
                its.add(oneNumber(rest, 0, c + s - 1));
            }
            sources.add(its);
        }
        main = oneNumber(rest, 0, c - 1);
        int n = oneNumber(rest, 0, 6);
        int total = 0;
        for (int k = 0; k < n; k++) {
            int name = oneByte(rest);
            int size = oneNumber(rest, 0, 200);
            total += size;
            if (name < 33 || name > 126 || sizes.put(name, size) != null) {
                throw new WrongHeader();
            }
            crcs.add(List.of(oneByte(rest), oneByte(rest), oneByte(rest), oneByte(rest)));
        }
        if (!rest.isEmpty() || total > 200 || total != gives.get(main)) {
            throw new WrongHeader();
        }
    }

    private boolean isBound() {
        List<Integer> all = new ArrayList<>();
        for (List<Integer> its : sources) {
            all.addAll(its);
        }
        for (int k = 0; k < kinds.size() + streams.size(); k++) {
            int one = k;
            long times = all.stream().filter(source -> source == one).count();
            if (times != (k == main ? 0 : 1)) {
                return false;
            }
        }
        Set<Integer> comeTo = new HashSet<>(Set.of(main));
        for (int round = 0; round < 4; round++) {
            for (int k : List.copyOf(comeTo)) {
                comeTo.addAll(sources.get(k));
            }
            comeTo.removeIf(source -> source >= kinds.size());
        }
        return comeTo.size() == kinds.size();
    }

    private List<Integer> bytesOf(int source) throws WrongBytes {
        if (source >= kinds.size()) {
            return streams.get(source - kinds.size());
        }
        int[] kind = kinds.get(source);
        int size = gives.get(source);
        List<Integer> first = bytesOf(sources.get(source).get(0));
        if (kind[0] == 1) {
            return unpack(first, size, kind[1]);
        }
        if (kind[0] == 4) {
            List<Integer> second = bytesOf(sources.get(source).get(1));
            int more = first.size() - second.size();
            if (first.size() + second.size() != size || more != 0 && more != 1) {
                throw new WrongBytes();
            }
            return join(first, second);
        }
        if (first.size() != size) {
            throw new WrongBytes();
        }
        return kind[0] == 0 ? first : kind[0] == 2 ? undelta(first, kind[1]) : branch(first, true);
    }

    int read() {
        int[] place = headerPlace();
        if (place == null || archive.get(0) != 55 || archive.get(1) != 122
                || !archive.subList(2, 6).equals(four(crc(archive.subList(place[0], place[1]))))) {
            return 1;
        }
        List<Integer> bytes;
        try {
            learn(new ArrayList<>(archive.subList(place[0], place[1])),
                    new ArrayList<>(archive.subList(place[1], archive.size())));
            if (!isBound()) {
                return 3;
            }
            bytes = bytesOf(main);
        } catch (WrongHeader e) {
            return 2;
        } catch (WrongBytes e) {
            return 4;
        }
        Map<Integer, List<Integer>> found = new LinkedHashMap<>();
        int from = 0;
        for (Map.Entry<Integer, Integer> file : sizes.entrySet()) {
            List<Integer> its = new ArrayList<>(bytes.subList(from, from + file.getValue()));
            if (!four(crc(its)).equals(crcs.get(found.size()))) {
                return 5;
            }
            found.put(file.getKey(), its);
            from += file.getValue();
        }
        files = found;
        return 0;
    }

    int put(long bytes, int n) {
        if (n < 1 || n > 8) {
            throw new IllegalArgumentException();
        }
        if (archive.size() + n > 1200) {
            throw new IllegalStateException();
        }
        for (int k = n - 1; k >= 0; k--) {
            archive.add((int) (bytes >> (8 * k) & 255));
        }
        return archive.size();
    }

    int poke(int k, int b) {
        if (k < 0 || k >= archive.size()) {
            throw new IndexOutOfBoundsException();
        }
        if (b < 0 || b > 255) {
            throw new IllegalArgumentException();
        }
        archive.set(k, b);
        return 0;
    }

    int cut(int n) {
        if (n < 0 || n > archive.size()) {
            throw new IllegalArgumentException();
        }
        archive = new ArrayList<>(archive.subList(0, n));
        return 0;
    }

    /** As Checks.sight tells it of an object. */
    String sight() {
        StringBuilder text = new StringBuilder();
        for (Map.Entry<Integer, List<Integer>> file : files.entrySet()) {
            text.append((char) file.getKey().intValue()).append(file.getValue().size()).append('(');
            text.append(hex(file.getValue())).append(')');
        }
        return text.append(" / ").append(hex(archive)).toString();
    }

    static String hex(List<Integer> bytes) {
        StringBuilder text = new StringBuilder();
        for (int b : bytes) {
            text.append(String.format("%02x", b));
        }
        return text.toString();
    }
}
