import java.util.ArrayList;
import java.util.List;

/** The edges that the terms "BITS" and "REPEATS" name, sentence by sentence. */
public final class BitsEdgesTest extends Archives {
    private static final long TWO_TO_31 = 1L << 31;
    private static final long TWO_TO_32 = 1L << 32;

    public static void main(String[] args) throws Model.WrongBytes {
        bitsAtFirst();
        chances();
        ranges();
        digits();
        taking();
        takingTooManyOrFew();
        takingPlainBits();
        trees();
        properties();
        latestDistances();
        bytesAlone();
        thirdTree();
        states();
        lengths();
        distances();
        takenWrong();
        packingRuns();
        packing();
        CHECKS.end();
    }

    private static void readsBack(String what, List<Integer> file, int properties) {
        reads(what, repeated(Model.pack(file, properties), file, properties), 0);
    }

    /** Both ways: the archive is as it must be, and gives the file again. */
    private static Model.Putter bothWays(String what, List<Integer> file, int properties) {
        Model.Putter due = Model.putterOf(file, properties);
        SolidFolder x = withFile(file);
        x.write(1, properties, 0, 0);
        CHECKS.equal(what, streamOf(x), Model.hex(due.bytes()));
        readsBack(what + ", read", file, properties);
        return due;
    }

    private static void meets(String what, List<Integer> file, int properties, String edge) {
        Model.Putter due = bothWays(what, file, properties);
        CHECKS.holds(what + " comes to " + edge, due.met.contains(edge));
    }

    // ---- BITS

    private static void bitsAtFirst() {
        CHECKS.says("BITS", "LOW is 0 and RANGE 2^32 - 1 at first.", () -> {
            SolidFolder x = withFile(bytes());
            x.write(1, 0, 0, 0);
            CHECKS.equal("LOW, when nothing is put", streamOf(x), "0000000000");
            reads("V is 0", repeated(bytes(0, 0, 0, 0, 0), bytes(), 0), 0);
            reads("V is 2^32 - 2", repeated(bytes(0, 255, 255, 255, 254), bytes(), 0), 0);
            reads("V is 2^32 - 1", repeated(bytes(0, 255, 255, 255, 255), bytes(), 0), 4);
        });

        CHECKS.says("BITS", "A CONTEXT has a CHANCE c, 1024 at first.", () -> {
            // 2^32 - 1 / 2048 times 1024 is 7ffffc00: V below it begins with a byte, others with a repeat.
            List<Integer> below = bytes(0, 0x7f, 0xff, 0xfb, 0xff);
            reads("V below the first bound", repeated(longer(below, 0), bytes(255), 0), 0);
            reads("V at the first bound", repeated(bytes(0, 0x7f, 0xff, 0xfc, 0, 0), bytes(255), 0), 4);
            packs("a", "b 1");
            packs("z", "b 1");
        });

        CHECKS.says("BITS", "BOUND is RANGE / 2048 (rounded down) times c.", () -> {
            for (int b = 0; b < 256; b += 5) {
                Packed packed = new Packed(0).byteOf(b);
                leastAndGreatest("byte " + b, packed);
                leastAndGreatest("byte " + b + " behind another", new Packed(0).byteOf(201).byteOf(b));
            }
        });
    }

    private static void chances() {
        CHECKS.says("BITS", "For 0 RANGE becomes bound, and c grows by (2048 - c) / 32", () -> {
            // The first bit of each byte alone: it is 0 again and again, until the chance can't grow.
            Packed zeros = new Packed(0).bytesOf(many(0, 200));
            zeros.reads("bits of 0, 200 times each", 0);
            CHECKS.holds("the greatest chance is come to", zeros.out.met.contains("chance 2017"));
            CHECKS.holds("and none beyond", !zeros.out.met.contains("chance 2018"));
            meets("different bytes", lowBytes(200), 0, "chance 2017");
        });

        CHECKS.says("BITS", "for 1 LOW grows by bound, RANGE falls by it, and c falls by c / 32 (both"
                + " rounded down).", () -> {
            Packed ones = new Packed(0).bytesOf(many(255, 200));
            ones.reads("bits of 1, 200 times each", 0);
            CHECKS.holds("the least chance is come to", ones.out.met.contains("chance 31"));
            CHECKS.holds("and none below", !ones.out.met.contains("chance 30"));
            meets("different bytes from 128 on", highBytes(200), 0, "chance 31");
            // From both ends back: a chance that is at its edge changes again.
            List<Integer> turning = lowBytes(150);
            turning.addAll(highBytes(50));
            bothWays("bits of 0, then of 1", turning, 0);
            List<Integer> back = highBytes(150);
            back.addAll(lowBytes(50));
            bothWays("bits of 1, then of 0", back, 0);
        });
    }

    /** Bytes below 128 without any three that come again. */
    private static List<Integer> lowBytes(int n) {
        List<Integer> row = new ArrayList<>();
        for (int k = 0; k < n; k++) {
            row.add((k * (k / 127 == 0 ? 37 : 41) + 5) % 127);
        }
        return row;
    }

    private static List<Integer> highBytes(int n) {
        List<Integer> row = new ArrayList<>();
        for (int b : lowBytes(n)) {
            row.add(255 - b);
        }
        return row;
    }

    private static void ranges() {
        CHECKS.says("BITS", "Then, while RANGE is below 2^24, both become 256 times as great.", () -> {
            // Files that were searched for: the range becomes 2^24 or one less behind some bit.
            meets("a file", scattered(200, 58), 0, "bit 0, range at 2^24");
            meets("a file", scattered(200, 2), 0, "bit 1, range at 2^24");
            meets("a file", far(24649), 0, "bit 0, range below 2^24");
            meets("a file", scattered(200, 101922), 0, "bit 1, range below 2^24");
        });

        CHECKS.says("BITS", "To put a PLAIN bit: RANGE is halved (rounded down), and for 1 LOW grows by what"
                + " it is then.", () -> {
            meets("a file", far(19885), 0, "plain bit, range at 2^24");
            meets("a file", far(3829568), 0, "plain bit, range below 2^24");
            for (int seed = 0; seed < 40; seed++) {
                bothWays("a file with plain bits", far(seed), 0);
            }
        });
    }

    private static void digits() {
        CHECKS.says("BITS", "The BYTES are the digits of LOW to the base 256, the highest first, five more"
                + " than it was multiplied.", () -> {
            packs("", new String[0]);
            meets("no carry but into the next digit", scattered(200, 58), 0, "carry through 0");
            meets("a carry through one 255", scattered(200, seedWithCarry()), 0, "carry through 1");
            meets("a carry through two", scattered(200, 1490), 0, "carry through 2");
            meets("a carry through three", scattered(200, 209578), 0, "carry through 3");
            meets("no carry, but nearly", scattered(200, 5351275), 0, "four digits of 255");
            meets("just a carry", scattered(200, 34113), 0, "carry that leaves 0");
            for (int n = 0; n <= 40; n++) {
                bothWays(n + " bytes", scattered(n, 3), 0);
            }
        });
    }

    private static int seedWithCarry() {
        for (int seed = 0; seed < 100; seed++) {
            if (Model.putterOf(scattered(200, seed), 0).met.contains("carry through 1")) {
                return seed;
            }
        }
        return 0;
    }

    private static void taking() {
        CHECKS.says("BITS", "V must be below RANGE in the beginning", () -> {
            for (int last : new int[] {0, 1, 253, 254}) {
                reads("V ends with " + last, repeated(bytes(0, 255, 255, 255, last), bytes(), 0), 0);
            }
            reads("V is RANGE", repeated(bytes(0, 255, 255, 255, 255), bytes(), 0), 4);
            reads("V is RANGE + 1", repeated(bytes(1, 0, 0, 0, 0), bytes(), 0), 4);
            reads("V of five bytes", repeated(bytes(255, 255, 255, 255, 255), bytes(), 0), 4);
            List<Integer> stream = packedBytes(bytes(1, 2, 3));
            reads("with bytes behind it", repeated(changed(stream, 0, 1), bytes(1, 2, 3), 0), 4);
        });

        CHECKS.says("BITS", "The bit is 1 if V is not below bound (a plain one: not below RANGE halved).", () -> {
            for (int b : new int[] {0, 1, 2, 127, 128, 254, 255}) {
                leastAndGreatest("byte " + b, new Packed(0).byteOf(b));
                leastAndGreatest("bytes up to " + b, new Packed(0).bytesOf(different(20)).byteOf(b));
            }
            for (int d : new int[] {129, 130, 144, 145, 160, 161, 176, 177, 192, 193, 196}) {
                leastAndGreatest("distance " + d, new Packed(0).bytesOf(scattered(196, 8)).match(2, d));
            }
        });

        CHECKS.says("BITS", "what V is then does not matter", () -> {
            List<Integer> file = scattered(30, 4);
            Packed packed = new Packed(0).bytesOf(file);
            for (long more = 0; more < packed.out.range(); more += packed.out.range() / 16) {
                reads("V is " + more + " then", repeated(packed.out.bytes(more), file, 0), 0);
                reads("V is " + more + " then, in two coders", twoCoders(packed, more), 0);
            }
        });
    }

    /** A JOIN of twice the same. */
    private static Model.Plan twoCoders(Packed packed, long more) {
        Model.Plan plan = graph(2, 0, new int[] {4, 1, 1}, 1, 2, 3, 4);
        List<Integer> file = Model.join(packed.file, packed.file);
        plan.gives = bytes(file.size(), packed.file.size(), packed.file.size());
        plan.files.put((int) 'f', file);
        plan.streams = List.of(packed.out.bytes(more), packed.out.bytes(more));
        return plan;
    }

    /** V is the least that there can be behind the last bit, and then the greatest. */
    private static void leastAndGreatest(String what, Packed packed) {
        long range = packed.out.range();
        reads(what + ", V least", repeated(packed.out.bytes(0), packed.file, 0), 0);
        reads(what + ", V greatest", repeated(packed.out.bytes(range - 1), packed.file, 0), 0);
        Model m = new Model();
        m.archive = repeated(packed.out.bytes(range), packed.file, 0).bytes();
        int beyond = m.read();
        CHECKS.holds("beyond that it is another file, or wrong", beyond == 4 || beyond == 5);
        reads(what + ", V beyond", m.archive, beyond);
    }

    private static void takingTooManyOrFew() {
        CHECKS.says("BITS", "if bytes lack", () -> {
            for (int n = 0; n < 5; n++) {
                reads("only " + n + " for the beginning", repeated(many(0, n), bytes(), 0), 4);
            }
            for (int n = 0; n <= 60; n++) {
                List<Integer> file = scattered(n, 5);
                List<Integer> stream = packedBytes(file);
                reads(n + " bytes", repeated(stream, file, 0), 0);
                reads(n + " bytes, one lacks", repeated(shorter(stream), file, 0), 4);
            }
            // Where the archive can't have more bytes: a JOIN's first input fills it up.
            for (int n = 0; n < 5; n++) {
                Model.Plan plan = graph(2, 0, new int[] {4, 1}, 2, 1, 3);
                plan.streams = List.of(bytes(), many(0, n));
                int filler = 1200 - plan.bytes().size() - 1;
                plan.streams = List.of(many(0, filler), many(0, n));
                CHECKS.equal("length", plan.bytes().size(), 1200);
                reads("only " + n + ", which are the last of 1200", plan, 4);
            }
        });

        CHECKS.says("BITS", "or if some are left over in the end (behind the last multiplication, too;", () -> {
            reads("six for nothing", repeated(many(0, 6), bytes(), 0), 4);
            int multiplied = 0;
            for (int n = 0; n <= 60; n++) {
                List<Integer> file = scattered(n, 6);
                Packed packed = new Packed(0).bytesOf(file);
                List<Integer> stream = packed.out.bytes();
                reads(n + " bytes, one more", repeated(longer(stream, 0), file, 0), 4);
                reads(n + " bytes, two more", repeated(longer(stream, 1, 2), file, 0), 4);
                multiplied += packed.out.endsMultiplied() ? 1 : 0;
            }
            CHECKS.holds("some end with a multiplication, others do not", multiplied > 0 && multiplied < 60);
            List<Integer> stream = packedBytes(bytes(1, 2, 3));
            reads("a size of one less", repeated(stream, bytes(1, 2), 0), 4);
            reads("a size of one more", repeated(stream, bytes(1, 2, 3, 0), 0), 4);
        });
    }

    /** A plain bit halves an odd range, and V stands in what the halves leave out. */
    private static void takingPlainBits() throws Model.WrongBytes {
        CHECKS.says("BITS", "and behind each plain bit.", () -> {
            int tried = 0;
            for (int seed = 0; seed < 40; seed++) {
                Packed packed = new Packed(0).bytesOf(scattered(134, seed));
                // With chances that were never used the range is even there: so some matches before.
                while (packed.file.size() < 194) {
                    int i = packed.file.size();
                    packed.match(2, 129 + i * (seed + 1) % (i - 129));
                }
                beginFarMatch(packed);
                if (packed.out.putLost()) {
                    List<Integer> stream = packed.out.bytes();
                    stream.addAll(many(0, 20));
                    packed.file.addAll(bytes(0, 0));
                    // Whoever does not look finds no other fault.
                    Model.Taker lenient = new Model.Taker(stream, true);
                    CHECKS.equal("bytes", Model.unpack(lenient, 196, 0).size(), 196);
                    reads("V is RANGE then", repeated(stream.subList(0, lenient.used()), packed.file, 0), 4);
                    tried++;
                }
            }
            CHECKS.holds("some were tried", tried > 3);
        });
    }

    /** Up to the plain bits: a match of two, slot 14. */
    private static void beginFarMatch(Packed packed) {
        int p = packed.s.p(packed.file.size());
        packed.out.bit("first" + packed.s.state + "," + p, 1);
        packed.out.bit("second" + packed.s.state, 0);
        Model.putLength(packed.out, "match", p, 2);
        packed.out.tree("slot0", 6, 14);
    }

    private static void trees() {
        CHECKS.says("BITS", "A number of n bits by a TREE of contexts 1 .. 2^n - 1", () -> {
            for (int b = 0; b < 256; b++) {
                bothWays("byte " + b, bytes(b), 0);
                bothWays("bytes " + b, bytes(b, b ^ 1, b ^ 128, b ^ 255, b ^ 2), 0);
            }
        });

        CHECKS.says("BITS", "By a TURNED tree: likewise, from the lowest bit on.", () -> {
            for (int d = 5; d <= 128; d++) {
                Packed packed = new Packed(0).bytesOf(different(130));
                packed.match(2, d).match(2, d).match(3, 133 - d).match(2, d ^ 1).byteOf(7);
                packed.reads("distances " + d, 0);
            }
        });
    }

    // ---- REPEATS

    private static void properties() {
        CHECKS.says("REPEATS", "PROPERTIES are lc + 9 * lp + 45 * pb, lc, lp and pb 0 .. 4, lc + lp at most"
                + " 3.", () -> {
            int known = 0;
            for (int properties = -1; properties <= 300; properties++) {
                int any = properties;
                SolidFolder x = withFile(bytes(1));
                String got = Checks.outcome(() -> x.write(1, any, 0, 0));
                String due = isKnown(properties) ? Integer.toString(x.length()) : "throws.IllegalArgumentException";
                CHECKS.equal("properties " + properties, got, due);
                known += isKnown(properties) ? 1 : 0;
            }
            CHECKS.equal("how many there are", known, 50);
        });

        CHECKS.says("REPEATS", "p being i modulo 2 to the pb", () -> {
            for (int pb = 0; pb <= 4; pb++) {
                for (int seed = 0; seed < 8; seed++) {
                    bothWays("pb " + pb, mixture(200, seed), 45 * pb);
                }
            }
            // All that goes by p, with p up to 15: neighbours have nothing in common.
            for (int seed = 0; seed < 60; seed++) {
                longParts(seed).reads("parts of all lengths, " + seed, 0);
            }
        });

        CHECKS.says("REPEATS", "[of the family (i modulo 2^lp) * 2^lc + the byte before (0 at first) / 2^(8"
                + " - lc)]", () -> {
            for (int lp = 0; lp <= 3; lp++) {
                for (int lc = 0; lc + lp <= 3; lc++) {
                    bothWays("lc " + lc + ", lp " + lp, mixture(200, lc), lc + 9 * lp);
                    bothWays("lc " + lc + ", lp " + lp + ", pb 4", scattered(200, lp), lc + 9 * lp + 180);
                    bothWays("the first byte", bytes(200, 201, 3, 200, 7), lc + 9 * lp);
                }
            }
            // The first byte's family is that of a 0 before it, which the byte behind a 0 uses again.
            bothWays("a byte behind none, and one behind a 0", bytes(9, 0, 9, 0, 8, 255, 9), 3);
        });
    }

    private static boolean isKnown(int properties) {
        int lc = Math.floorMod(properties, 9);
        int lp = Math.floorDiv(properties, 9) % 5;
        return properties >= 0 && properties < 225 && lc + lp <= 3;
    }

    /** Bytes that give parts of all kinds when they are packed. */
    private static List<Integer> mixture(int n, int seed) {
        List<Integer> row = new ArrayList<>();
        List<Integer> numbers = scattered(2000, seed + 100);
        int next = 0;
        while (row.size() < n) {
            int way = numbers.get(next) % 3;
            int d = 1 + numbers.get(next + 1) % Math.max(1, Math.min(row.size(), way == 1 ? 6 : 200));
            int length = way == 2 || row.isEmpty() ? 0 : 1 + numbers.get(next + 2) % 7;
            for (int k = 0; k < length; k++) {
                row.add(row.get(row.size() - d));
            }
            if (length == 0) {
                row.add(numbers.get(next + 3) & 143);
            }
            next += 4;
        }
        return row.subList(0, n);
    }

    private static void latestDistances() {
        CHECKS.says("REPEATS", "There are a STATE, at first 0, and the latest four distances, r0 .. r3, all"
                + " 1 at first.", () -> {
            for (int which = 0; which < 4; which++) {
                new Packed().byteOf(6).repeat(which, 2).byteOf(6).reads("r" + which + " is 1", 0);
                new Packed().byteOf(6).byteOf(7).repeat(which, 3).reads("r" + which + " is 1 at place 2", 0);
            }
            new Packed().byteOf(6).shortOne().reads("a short one", 0);
        });

        CHECKS.says("REPEATS", "r0 .. r2 become r1 .. r3, d is r0.", () -> {
            for (int which = 0; which < 4; which++) {
                fourMatches().repeat(which, 3).repeat(which, 2).reads("r" + which, 0);
            }
        });

        CHECKS.says("REPEATS", "That distance becomes r0, those that were before it move one behind.", () -> {
            for (int one = 0; one < 4; one++) {
                for (int two = 0; two < 4; two++) {
                    Packed packed = fourMatches().repeat(one, 2).repeat(two, 2);
                    packed.shortOne().repeat(3, 2).repeat(2, 2).repeat(1, 2).repeat(3, 2);
                    packed.reads("r" + one + ", then r" + two, 0);
                }
            }
        });
    }

    /** Four distances behind one another: 11, 7, 5, 3. */
    private static Packed fourMatches() {
        return new Packed().bytesOf(different(12)).match(2, 3).match(2, 5).match(2, 7).match(2, 11);
    }

    private static void bytesAlone() {
        CHECKS.says("REPEATS", "with a state from 7 on, m being the byte r0 before: as long as all bits so"
                + " far are those of m", () -> {
            // Behind a match the byte has 0 to 8 bits that are those of m.
            for (int differs = 0; differs <= 8; differs++) {
                for (int low : new int[] {0, 255}) {
                    Packed packed = new Packed(0).bytesOf(bytes(0x5a, 0xc3, 0x11)).match(2, 3);
                    for (int n = 0; n < 12; n++) {
                        int m = packed.file.get(packed.file.size() - packed.s.r.get(0).intValue());
                        int kept = differs == 0 ? 0 : m >> (8 - differs) << (8 - differs);
                        packed.byteOf(kept | (m ^ low) & (255 >> differs));
                        packed.match(2, 1 + n % 4);
                    }
                    packed.reads(differs + " bits are those of m", 0);
                }
            }
            // In each state from 4 on: byte by byte from the greatest one down.
            for (Packed packed : List.of(
                    new Packed(0).byteOf(5).match(2, 1),
                    new Packed(0).byteOf(5).repeat(0, 2),
                    new Packed(0).byteOf(5).shortOne(),
                    new Packed(0).byteOf(5).match(2, 1).match(2, 1),
                    new Packed(0).byteOf(5).match(2, 1).shortOne())) {
                packed.bytesOf(bytes(5, 5, 5, 4, 5, 5, 4, 5)).reads("bytes in state after state", 0);
            }
        });
    }

    /** The last contexts of a family's trees are those of 254 and 255: families have none in common. */
    private static void thirdTree() {
        CHECKS.says("REPEATS", "each bit's context is one of another tree of the family for the bit of m at"
                + " its place being 0, or of a third one for 1 (with the same number k).", () -> {
            for (int properties : new int[] {0, 1, 2, 3, 9, 18, 27, 19}) {
                for (int m : new int[] {0, 1, 127, 128, 252, 253, 254, 255}) {
                    Packed packed = new Packed(properties);
                    packed.bytesOf(bytes(m, m, m));
                    for (int n = 0; n < 14; n++) {
                        packed.match(2, 1).byteOf(n % 3 == 0 ? m : m ^ 1).byteOf(n * 37 & 255).byteOf(m).byteOf(m);
                    }
                    packed.reads("bytes as " + m, 0);
                }
            }
        });
    }

    /** Parts of some kinds by turns, a long row of them: bytes, matches, short ones, repeats. */
    private static Packed parts(String kinds, int seed, int properties) {
        Packed packed = new Packed(properties);
        List<Integer> numbers = scattered(600, seed);
        packed.byteOf(1).byteOf(2);
        for (int k = 0; packed.file.size() < 180 && k < 600; k++) {
            char kind = kinds.charAt(numbers.get(k) % kinds.length());
            int i = packed.file.size();
            if (kind == 'b') {
                packed.byteOf(numbers.get((k + 7) % 600) & 3);
            } else if (kind == 'm') {
                packed.match(2 + k % 2, 1 + numbers.get((k + 9) % 600) % Math.min(i, 9));
            } else if (kind == 's') {
                packed.shortOne();
            } else {
                packed.repeat(numbers.get((k + 11) % 600) & 3, 2);
            }
        }
        return packed;
    }

    /** Parts of all kinds with pb 4, most of them short, with lengths on both sides of 10 and 18. */
    private static Packed longParts(int seed) {
        Packed packed = new Packed(180);
        List<Integer> numbers = scattered(400, seed);
        packed.bytesOf(bytes(7, 9, 7));
        for (int k = 0; packed.file.size() < 170; k += 3) {
            int length = numbers.get(k) % 2 == 0 ? 2 : 2 + numbers.get(k + 1) % 20;
            int way = numbers.get(k + 2) % 8;
            if (way < 3) {
                packed.match(length, 1 + numbers.get(k + 1) % Math.min(packed.file.size(), 40));
            } else if (way < 6) {
                packed.repeat(numbers.get(k + 1) & 3, length);
            } else if (way == 6) {
                packed.shortOne();
            } else {
                packed.byteOf(numbers.get(k + 1) & 7);
            }
        }
        return packed;
    }

    private static void readsParts(String kinds) {
        for (int seed = 0; seed < 12; seed++) {
            for (int properties : new int[] {0, 93, 180}) {
                parts(kinds, seed, properties).reads("parts of " + kinds + ", " + seed, 0);
            }
        }
    }

    private static void states() {
        CHECKS.says("REPEATS", "State below 4 becomes 0, below 10 three less, others six less.", () -> {
            readsParts("bbbm");
            readsParts("bbbs");
            readsParts("bbbr");
            readsParts("bbbbmsr");
            readsParts("bmmss");
        });

        CHECKS.says("REPEATS", "A MATCH: 1 [first; state, p], 0 [second; state], its length and its distance"
                + " d", () -> {
            readsParts("bm");
            readsParts("bmm");
        });

        CHECKS.says("REPEATS", "State below 7 becomes 7, others 10.", () -> {
            readsParts("bbm");
            readsParts("bmmm");
            readsParts("bmsr");
        });

        CHECKS.says("REPEATS", "A SHORT one: 1 [first], 1 [second], 0 [third; state], 0 [fourth; state, p]:"
                + " one byte as that r0 before.", () -> {
            readsParts("sb");
            readsParts("smr");
        });

        CHECKS.says("REPEATS", "State below 7 becomes 9, others 11.", () -> {
            readsParts("bs");
            readsParts("bbbss");
            readsParts("bms");
        });

        CHECKS.says("REPEATS", "A REPEAT of r0: 1, 1, 0, 1 [as these]; of r1: 1, 1, 1 [third], 0 [fifth;"
                + " state]; of r2: 1, 1, 1, 1 [fifth], 0 [sixth; state]; of r3: 1, 1, 1, 1, 1 [sixth]; then"
                + " its length.", () -> {
            readsParts("rb");
            readsParts("rsm");
        });

        CHECKS.says("REPEATS", "State below 7 becomes 8, others 11.", () -> {
            readsParts("br");
            readsParts("bbbrr");
            readsParts("bmr");
        });
    }

    private static void lengths() {
        CHECKS.says("REPEATS", "A LENGTH, 2 .. 273 (in other contexts for matches than for repeats), less 2"
                + " is x", () -> {
            for (int properties : new int[] {0, 93, 180}) {
                for (int length = 2; length <= 197; length++) {
                    new Packed(properties).byteOf(9).match(length, 1).byteOf(8).reads("match of " + length, 0);
                    new Packed(properties).byteOf(9).repeat(2, length).byteOf(8).reads("repeat of " + length, 0);
                }
            }
            new Packed().byteOf(9).match(199, 1).reads("match of 199", 0);
            new Packed().byteOf(9).repeat(0, 199).reads("repeat of 199", 0);
            Packed both = new Packed().byteOf(9).byteOf(8);
            for (int length = 2; length <= 12; length++) {
                both.match(length, 2).repeat(0, 14 - length).byteOf(length);
            }
            both.reads("matches and repeats of lengths by turns", 0);
        });

        CHECKS.says("REPEATS", "below 8: 0 [first], x by a tree of 3 bits [p]; below 16: 1 [first], 0"
                + " [second], x - 8 by a tree of 3 bits [other ones; p]; else 1, 1, x - 16 by a tree of 8"
                + " bits.", () -> {
            for (int x : new int[] {0, 1, 6, 7, 8, 9, 14, 15, 16, 17, 23, 24, 31, 32, 47, 48}) {
                for (int properties : new int[] {0, 45, 180}) {
                    for (int start = 1; start <= 4; start++) {
                        Packed packed = new Packed(properties).bytesOf(different(start));
                        packed.match(x + 2, 1).match(x + 2, 1).byteOf(7).repeat(1, x + 2).byteOf(6);
                        packed.reads("x is " + x + ", again and again", 0);
                    }
                }
            }
            for (int length = 3; length <= 100; length++) {
                List<Integer> file = different(length);
                file.addAll(different(length));
                bothWays("a match of " + length, file, 93);
                List<Integer> run = many(4, length);
                run.add(5);
                bothWays("a repeat of " + (length - 1), run, 93);
            }
            bothWays("a repeat of 199", many(4, 200), 93);
        });
    }

    private static void distances() {
        CHECKS.says("REPEATS", "its SLOT is y below 4, otherwise 2 n + (bit n - 1 of y), n being the number"
                + " of its highest bit; by a tree of 6 bits [x, but at most 3].", () -> {
            for (int d = 1; d <= 16; d++) {
                for (int length = 2; length <= 7; length++) {
                    Packed packed = new Packed(0).bytesOf(different(16));
                    packed.match(length, d).match(2, 17 - d).match(length, d).match(3, d).match(4, 17 - d);
                    packed.match(5, d).match(6, 17 - d).match(length, 17 - d).reads("distance " + d, 0);
                }
            }
        });

        CHECKS.says("REPEATS", "With slots 4 .. 13 the n - 1 lowest bits of y follow by a turned tree"
                + " [slot]; with greater ones bits n - 2 .. 4, plain, the highest first, and the four lowest"
                + " by a turned tree [one for all].", () -> {
            for (int d = 1; d <= 192; d++) {
                new Packed(0).bytesOf(scattered(192, 9)).match(2, d).match(3, d).byteOf(9).reads("distance " + d, 0);
            }
            new Packed(0).bytesOf(scattered(198, 9)).match(2, 198).reads("distance 198", 0);
            // Distances of the last slot with a tree of its own, and of those behind it, by turns.
            for (int seed = 0; seed < 40; seed++) {
                Packed packed = new Packed(0).bytesOf(scattered(150, seed));
                for (int k = 0; k < 12; k++) {
                    packed.match(2, 97 + (seed * 5 + k * 7) % 32).match(2, 129 + (seed * 3 + k * 11) % 20);
                }
                packed.reads("distances from 97 on", 0);
            }
            // Of bytes that are all different only the last three can come again, from just there.
            for (int d = 3; d <= 197; d++) {
                List<Integer> file = different(d);
                file.addAll(different(3));
                bothWays("distance " + d, file, 93);
            }
        });
    }

    private static void takenWrong() {
        CHECKS.says("REPEATS", "Taken, it is wrong if a distance is above i", () -> {
            new Packed().shortOne().reads("a short one at 0", 4);
            for (int which = 0; which < 4; which++) {
                new Packed().repeat(which, 2).reads("a repeat of r" + which + " at 0", 4);
            }
            new Packed().match(2, 1).reads("a match at 0", 4);
            for (int i : new int[] {1, 2, 3, 4, 5, 8, 127, 128, 129, 130, 192, 193, 198}) {
                new Packed().bytesOf(scattered(i, 2)).match(2, i).reads("distance " + i + " at " + i, 0);
                new Packed().bytesOf(scattered(i, 2)).match(2, i + 1).reads("distance " + (i + 1) + " at " + i, 4);
            }
            for (long d : new long[] {201, 256, 257, 65536, 65537, 65540, TWO_TO_31 - 1, TWO_TO_31, TWO_TO_31 + 1,
                TWO_TO_31 + 5, TWO_TO_32 - 200, TWO_TO_32 - 2, TWO_TO_32 - 1, TWO_TO_32}) {
                new Packed().bytesOf(scattered(9, 2)).match(2, d).reads("distance " + d + " at 9", 4);
                new Packed().match(2, d).reads("distance " + d + " at 0", 4);
            }
            for (int bit = 8; bit < 32; bit++) {
                new Packed().bytesOf(scattered(9, 2)).match(2, (1L << bit) + 3).reads("far away", 4);
            }
        });

        CHECKS.says("REPEATS", "or what it gives goes beyond the size.", () -> {
            for (int length : new int[] {2, 3, 9, 10, 17, 18, 199}) {
                new Packed().byteOf(9).match(length, 1).reads("a match up to the size", 0);
                new Packed().byteOf(9).match(length, 1).readsShorter("a match one beyond", 4);
                new Packed().byteOf(9).repeat(3, length).reads("a repeat up to the size", 0);
                new Packed().byteOf(9).repeat(3, length).readsShorter("a repeat one beyond", 4);
            }
            Packed longest = new Packed().byteOf(0).match(273, 1);
            reads("a match of 273 beyond", repeated(longest.out.bytes(), many(0, 200), 93), 4);
            Packed repeat = new Packed().byteOf(0).repeat(0, 273);
            reads("a repeat of 273 beyond", repeated(repeat.out.bytes(), many(0, 200), 93), 4);
        });

        CHECKS.says("REPEATS", "(Nothing tells the end: the size is known.)", () -> {
            new Packed().byteOf(9).shortOne().reads("a short one in the end", 0);
            new Packed().byteOf(9).shortOne().byteOf(9).reads("a byte in the end", 0);
            Packed more = new Packed().byteOf(9).byteOf(8);
            more.readsShorter("a byte more than the size", 4);
        });
    }

    // ---- TO PACK

    private static void packingRuns() {
        CHECKS.says("TO PACK", "at place i the RUN of a distance d up to i is the greatest length, up to 273"
                + " and the end, of which the bytes are those d before, one by one.", () -> {
            packs("abcabc", "b 3", "m 3 3");
            packs("abcabca", "b 3", "m 4 3");
            packs("ababababab", "b 2", "m 8 2");
            packs("aa", "b 1", "s");
            packs("aaa", "b 1", "r 0 2");
            packs("a".repeat(200), "b 1", "r 0 199");
            packs("ab".repeat(100), "b 2", "m 198 2");
            packs("abcabcX", "b 3", "m 3 3", "b 1");
        });

        CHECKS.says("TO PACK", "R is the greatest run of r0 .. r3 (the first one that has it)", () -> {
            packs("cbabccbaccc", "b 5", "m 3 5", "b 1", "r 0 2");
            packs("ababaabaaaa", "b 2", "m 3 2", "m 4 3", "r 1 2");
            packs("bababbabaabbbb", "b 2", "m 3 2", "m 4 5", "m 3 6", "r 2 2");
            packs("ababaaa", "b 2", "m 3 2", "r 1 2");
            packs("bababbabaaa", "b 2", "m 3 2", "m 4 5", "r 2 2");
            packs("cabcababcbcbbb", "b 3", "m 3 3", "m 3 5", "m 3 2", "r 3 2");
        });

        CHECKS.says("TO PACK", "M that of all distances (the least one that has it).", () -> {
            packs("ababbababa", "b 4", "m 3 3", "m 3 2");
            packs("ababaaba", "b 2", "m 3 2", "m 3 3");
            packs("abababaababa", "b 2", "m 5 2", "m 5 5");
            packs("babbabbababbab", "b 3", "m 6 3", "m 5 5");
            packs("abcXabcYZabc", "b 4", "m 3 4", "b 2", "m 3 5");
        });
    }

    private static void packing() {
        CHECKS.says("TO PACK", "If R is 2 or more and R + 1 not below M, R's repeat comes", () -> {
            // R 1, M 2: a short one; R 2, M 2 and M 3: the repeat; R 2, M 4: the match; R 3 and R 5 likewise.
            packs("bdbbd", "b 3", "s", "b 1");
            packs("caaa", "b 2", "r 0 2");
            packs("bbabbba", "b 1", "s", "b 2", "r 0 2", "b 1");
            packs("aabaaaba", "b 1", "s", "b 2", "m 4 4");
            packs("ababbabaabab", "b 4", "m 3 3", "b 1", "r 0 3", "b 1");
            packs("babaababbabaa", "b 4", "m 3 3", "b 1", "m 5 8");
            packs("abbbbbabbbbbbbbbba", "b 2", "r 0 4", "m 6 6", "r 1 5", "b 1");
            packs("aaaaababaaaaaaba", "b 1", "r 0 4", "b 1", "m 3 2", "m 7 9");
        });

        CHECKS.says("TO PACK", "otherwise, if M is 3 or more, the match", () -> {
            packs("abab", "b 4");
            packs("ababa", "b 2", "m 3 2");
            packs("abaaba", "b 3", "m 3 3");
            packs("abaabaa", "b 3", "m 4 3");
        });

        CHECKS.says("TO PACK", "otherwise, if the run of r0 is 1 or more, a short one", () -> {
            packs("abcc", "b 3", "s");
            packs("abcabcQbX", "b 3", "m 3 3", "b 1", "s", "b 1");
        });

        CHECKS.says("TO PACK", "otherwise the byte.", () -> {
            packs("adca", "b 4");
            packs("bababb", "b 2", "m 3 2", "b 1");
            packs("bcbcbbc", "b 2", "m 3 2", "b 2");
            packs("cbababbabcbaa", "b 3", "m 3 2", "m 3 3", "m 3 9", "b 1");
        });
    }
}
