import java.util.ArrayList;
import java.util.List;

/** The edges that promises 9 and 11 to 16 and the term "THE ARCHIVE" name, sentence by sentence. */
public final class ArchiveEdgesTest extends Archives {
    private static final int LEAST = Integer.MIN_VALUE;
    private static final int GREATEST = Integer.MAX_VALUE;

    public static void main(String[] args) {
        terms();
        whatThrows();
        promise9Files();
        promise9Coders();
        promise9Filters();
        promise9Refused();
        promise11();
        promise12();
        promise13();
        promise14();
        promise15();
        promise16();
        promise16TooShort();
        CHECKS.end();
    }

    private static SolidFolder ofLength(int n) {
        return withArchive(different(n));
    }

    private static String outcome(Checks.Call call) {
        return Checks.outcome(call);
    }

    private static String done(Checks.Act act) {
        return Checks.outcome(() -> {
            act.run();
            return 0;
        });
    }

    // ---- Terms

    private static void terms() {
        CHECKS.says("THE ARCHIVE", "THE ARCHIVE is at most 1200 bytes", () -> {
            SolidFolder x = ofLength(1199);
            CHECKS.equal("the 1200th", outcome(() -> x.put(5, 1)), "1200");
            CHECKS.fails("one more", STATE, () -> x.put(5, 1));
            CHECKS.equal("length", x.length(), 1200);
        });

        CHECKS.says("THE ARCHIVE", "none at first.", () -> {
            CHECKS.equal("length", new SolidFolder().length(), 0);
            CHECKS.fails("byteAt 0", INDEX, () -> new SolidFolder().byteAt(0));
        });
    }

    private static void whatThrows() {
        CHECKS.says("Terms", "the one named first when several would do", () -> {
            SolidFolder full = ofLength(1200);
            CHECKS.fails("put 9 behind 1200", ARGUMENT, () -> full.put(1, 9));
            CHECKS.fails("put 0 behind 1200", ARGUMENT, () -> full.put(1, 0));
            CHECKS.fails("poke beyond, with no byte", INDEX, () -> full.poke(1200, 256));
            CHECKS.fails("poke before, with no byte", INDEX, () -> full.poke(-1, -1));
        });

        CHECKS.says("Terms", "a call that throws changes nothing", () -> {
            SolidFolder x = ofLength(1197);
            x.begin('a');
            x.give(0x010203, 3);
            String before = Checks.sight(x);
            stays(x, before, ARGUMENT, () -> x.write(3, 0, 0, 0));
            stays(x, before, ARGUMENT, () -> x.write(0, 4, 0, 0));
            stays(x, before, ARGUMENT, () -> x.write(0, 0, 3, 1));
            stays(x, before, ARGUMENT, () -> x.write(0, 0, 1, 17));
            stays(x, before, INDEX, () -> x.byteAt(1197));
            stays(x, before, INDEX, () -> x.poke(1197, 0));
            stays(x, before, ARGUMENT, () -> x.poke(0, 256));
            stays(x, before, STATE, () -> x.put(-1, 4));
            stays(x, before, ARGUMENT, () -> x.put(-1, 0));
            stays(x, before, ARGUMENT, () -> x.cut(1198));
            stays(x, before, ARGUMENT, () -> x.cut(-1));
        });
    }

    private static void stays(SolidFolder x, String before, Class<? extends RuntimeException> due, Checks.Act act) {
        CHECKS.fails("what is to throw", due, act);
        CHECKS.equal("all behind it", Checks.sight(x), before);
    }

    // ---- Promise 9

    /** Writes the files of an object in all ways, and holds each archive against the model's. */
    private static void writes(String what, SolidFolder x) {
        Model m = new Model();
        for (int k = 0; k < x.files(); k++) {
            m.begin(x.about(k, false));
            for (int i = 0; i < x.about(k, true); i++) {
                m.give(x.at(k, i), 1);
            }
        }
        for (int method = 0; method < 3; method++) {
            for (int filter = 0; filter < 3; filter++) {
                String way = what + ", method " + method + ", filter " + filter;
                CHECKS.equal(way, x.write(method, 93, filter, 1), m.write(method, 93, filter, 1));
                CHECKS.equal(way, Checks.sight(x), m.sight());
                CHECKS.equal(way + ", read", x.read(), 0);
                CHECKS.equal(way + ", read", Checks.sight(x), m.sight());
            }
        }
    }

    private static void promise9Files() {
        CHECKS.says("Promise 9", "Writes all files as the archive: how many bytes it has.", () -> {
            writes("no files", new SolidFolder());
            writes("a file without bytes", withFile(bytes()));
            writes("a file of one byte", withFile(bytes(255)));
            writes("a file of 200 bytes", withFile(different(200)));
            writes("200 bytes that are alike", withFile(many(0, 200)));
            SolidFolder six = new SolidFolder();
            for (int k = 0; k < 6; k++) {
                six.begin(33 + k);
                if (k % 2 == 1) {
                    six.give(0x0102030405060708L << k, 8);
                }
            }
            writes("six files, every second one without bytes", six);
            SolidFolder over = ofLength(1200);
            CHECKS.equal("over 1200 bytes", over.write(0, 0, 0, 0), 16);
            CHECKS.equal("what was there is gone", over.length(), 16);
            CHECKS.fails("what was there is gone", INDEX, () -> over.byteAt(16));
        });

        CHECKS.says("Promise 9", "IllegalStateException: it would have more than 1200 bytes.", () -> {
            // No files of 200 bytes come near that: nothing is refused for its size.
            for (int seed = 0; seed < 40; seed++) {
                SolidFolder x = withFile(scattered(200, seed));
                for (int method = 0; method < 3; method++) {
                    int m = method;
                    String got = outcome(() -> x.write(m, 183, 1, 1));
                    CHECKS.holds("200 bytes by method " + m + ": " + got, got.matches("2[0-9][0-9]"));
                }
            }
        });
    }

    /** The header of an archive up to the number of files, of which it has one. */
    private static String graphOf(SolidFolder x) {
        String archive = archiveOf(x);
        int size = Integer.parseInt(archive.substring(12, 14), 16);
        return archive.substring(14, 14 + 2 * size - 12);
    }

    private static void writesGraph(List<Integer> file, int method, int filter, String due) {
        SolidFolder x = withFile(file);
        x.write(method, 93, filter, 16);
        CHECKS.equal(file.size() + " bytes, method " + method + ", filter " + filter, graphOf(x), due);
    }

    private static void promise9Coders() {
        CHECKS.says("Promise 9", "Filter 0: none, 1: DELTA by distance, 2: BRANCH; it is the first coder"
                + " then.", () -> {
            writesGraph(bytes(), 0, 0, "01" + "0000" + "0100" + "00" + "01" + "0001");
            writesGraph(bytes(), 0, 1, "02" + "0210" + "0000" + "0100" + "0000" + "0102" + "0001");
            writesGraph(bytes(), 0, 2, "02" + "0300" + "0000" + "0100" + "0000" + "0102" + "0001");
        });

        CHECKS.says("Promise 9", "Method 0: a COPY, 1: a coder of REPEATS with these properties, 2: a JOIN,"
                + " and behind it two such coders for its two inputs; these get packed streams, each next"
                + " one the next.", () -> {
            writesGraph(bytes(7), 0, 0, "01" + "0000" + "0101" + "01" + "01" + "0001");
            writesGraph(bytes(), 1, 0, "01" + "015d" + "0105" + "00" + "01" + "0001");
            for (int n = 0; n <= 3; n++) {
                List<Integer> file = different(n);
                String first = Model.hex(bytes(Model.pack(Model.everySecond(file, 0), 93).size()));
                String second = Model.hex(bytes(Model.pack(Model.everySecond(file, 1), 93).size()));
                String gives = Model.hex(bytes((n + 1) / 2, n / 2));
                String all = Model.hex(bytes(n));
                writesGraph(file, 2, 0, "03" + "0400015d015d" + "02" + first + second + all + gives
                        + "01020304" + "0001");
                writesGraph(file, 2, 2, "04" + "03000400015d015d" + "02" + first + second + all + all + gives
                        + "0102030405" + "0001");
            }
            SolidFolder x = withFile(bytes());
            x.write(1, 183, 0, 0);
            CHECKS.equal("properties from 128 on", graphOf(x), "01" + "0180b7" + "0105" + "00" + "01" + "0001");
        });

        CHECKS.says("Promise 9", "The main coder is the first one.", () -> {
            for (int method = 0; method < 3; method++) {
                for (int filter = 0; filter < 3; filter++) {
                    SolidFolder y = withFile(different(5));
                    y.write(method, 0, filter, 1);
                    String graph = graphOf(y);
                    CHECKS.equal("main", graph.substring(graph.length() - 4), "0001");
                }
            }
            // Also when an archive was read where it is another one.
            SolidFolder z = withArchive(graph(1, 3, new int[] {0, 0, 0, 0}, 1, 2, 4, 0).bytes());
            CHECKS.equal("read", z.read(), 0);
            z.begin('f');
            z.write(0, 0, 0, 0);
            CHECKS.equal("main", graphOf(z), "01" + "0000" + "0100" + "00" + "01" + "0001");
        });
    }

    private static void filtered(int filter, int distance, String due, int... file) {
        SolidFolder x = withFile(bytes(file));
        x.write(0, 0, filter, distance);
        CHECKS.equal("behind filter " + filter + ", " + distance + " of " + Model.hex(bytes(file)), streamOf(x), due);
        CHECKS.equal("read", x.read(), 0);
        CHECKS.equal("read", Model.hex(bytes(file)), filesOf(x).replaceAll("f\\d+\\((.*)\\)", "$1"));
    }

    private static void promise9Filters() {
        CHECKS.says("Promise 9", "for DELTA each byte less the one so far before it, modulo 256", () -> {
            filtered(1, 1, "", new int[0]);
            filtered(1, 1, "ff", 255);
            filtered(1, 1, "0001ff01", 0, 1, 0, 1);
            filtered(1, 1, "ff01ff", 255, 0, 255);
            filtered(1, 2, "05060101", 5, 6, 6, 7);
            filtered(1, 3, "050607", 5, 6, 7);
            filtered(1, 3, "05060700", 5, 6, 7, 5);
            filtered(1, 16, "01020304050607080910111213141516",
                    1, 2, 3, 4, 5, 6, 7, 8, 9, 16, 17, 18, 19, 20, 21, 22);
            filtered(1, 16, "0102030405060708091011121314151604",
                    1, 2, 3, 4, 5, 6, 7, 8, 9, 16, 17, 18, 19, 20, 21, 22, 5);
        });

        CHECKS.says("Promise 9", "for BRANCH as there, but with a + k + 5: the bytes that are looked at are"
                + " those of the files.", () -> {
            filtered(2, 0, "", new int[0]);
            filtered(2, 0, "e8", 232);
            filtered(2, 0, "e8000000", 232, 0, 0, 0);
            filtered(2, 0, "e805000000", 232, 0, 0, 0, 0);
            filtered(2, 0, "e905000000", 233, 0, 0, 0, 0);
            filtered(2, 0, "e700000000", 231, 0, 0, 0, 0);
            filtered(2, 0, "ea00000000", 234, 0, 0, 0, 0);
            filtered(2, 0, "e8050000ff", 232, 0, 0, 0, 255);
            filtered(2, 0, "e800000001", 232, 0, 0, 0, 1);
            filtered(2, 0, "e8000000fe", 232, 0, 0, 0, 254);
            filtered(2, 0, "e8ffffff00", 232, 250, 255, 255, 0);
            filtered(2, 0, "e8000000ff", 232, 251, 255, 255, 0);
            filtered(2, 0, "e8ffffffff", 232, 250, 255, 255, 255);
            filtered(2, 0, "e800000000", 232, 251, 255, 255, 255);
            filtered(2, 0, "07e806000000", 7, 232, 0, 0, 0, 0);
            filtered(2, 0, "07e8000000", 7, 232, 0, 0, 0);
            // It goes on behind the four: a 232 among them is not looked at.
            filtered(2, 0, "e8ed000000" + "000000", 232, 232, 0, 0, 0, 0, 0, 0);
            filtered(2, 0, "e805000000" + "e80a000000", 232, 0, 0, 0, 0, 232, 0, 0, 0, 0);
            // Otherwise it goes on with the next byte: a 232 among the four is looked at.
            filtered(2, 0, "e8e806000100", 232, 232, 0, 0, 1, 0);
        });
    }

    private static void refused(int method, int properties, int filter, int distance) {
        SolidFolder x = withFile(bytes(1));
        CHECKS.fails("write " + method + ", " + properties + ", " + filter + ", " + distance, ARGUMENT,
                () -> x.write(method, properties, filter, distance));
        CHECKS.equal("length", x.length(), 0);
    }

    private static void allowed(int method, int properties, int filter, int distance) {
        SolidFolder x = withFile(bytes(1));
        String got = outcome(() -> x.write(method, properties, filter, distance));
        CHECKS.equal("write " + method + ", " + properties + ", " + filter + ", " + distance, got,
                Integer.toString(x.length()));
    }

    private static void promise9Refused() {
        CHECKS.says("Promise 9", "IllegalArgumentException: method or filter is none of these", () -> {
            for (int none : new int[] {-1, 3, 4, 256, LEAST, GREATEST}) {
                refused(none, 0, 0, 0);
                refused(0, 0, none, 1);
                refused(2, 0, none, 1);
            }
            for (int k = 0; k <= 2; k++) {
                allowed(k, 0, 0, 1);
                allowed(0, 0, k, 1);
            }
        });

        CHECKS.says("Promise 9", "properties (with any method)", () -> {
            for (int method = 0; method < 3; method++) {
                for (int none : new int[] {-1, 4, 8, 12, 21, 28, 36, 40, 44, 49, 184, 192, 216, 225, 9 * 25, 45 * 5,
                    -45, 256 + 93, 65536, LEAST, LEAST + 93, GREATEST}) {
                    refused(method, none, 0, 0);
                    refused(method, none, 1, 1);
                    refused(method, none, 2, 0);
                }
                for (int one : new int[] {0, 1, 2, 3, 9, 10, 11, 18, 19, 27, 45, 48, 72, 93, 180, 183, 207}) {
                    allowed(method, one, 0, 0);
                }
            }
        });

        CHECKS.says("Promise 9", "(for filter 1 alone) distance none", () -> {
            for (int method = 0; method < 3; method++) {
                for (int none : new int[] {0, 17, -1, 256, 257, LEAST, LEAST + 1, GREATEST}) {
                    refused(method, 0, 1, none);
                    allowed(method, 0, 0, none);
                    allowed(method, 0, 2, none);
                }
                for (int distance = 1; distance <= 16; distance++) {
                    allowed(method, 0, 1, distance);
                }
            }
        });
    }

    // ---- Promises 11 to 16

    private static void promise11() {
        CHECKS.says("Promise 11", "How many bytes the archive has.", () -> {
            SolidFolder x = new SolidFolder();
            CHECKS.equal("none", x.length(), 0);
            x.seal();
            CHECKS.equal("none sealed", x.length(), 0);
            x.put(-1, 1);
            CHECKS.equal("one", x.length(), 1);
            x.cut(0);
            CHECKS.equal("none again", x.length(), 0);
            CHECKS.equal("as many as can be", ofLength(1200).length(), 1200);
            x.write(1, 0, 0, 0);
            CHECKS.equal("written", x.length(), 21);
            x.read();
            CHECKS.equal("read", x.length(), 21);
        });
    }

    private static void promise12() {
        List<Integer> row = different(1200);
        CHECKS.says("Promise 12", "Byte k of the archive.", () -> {
            SolidFolder x = withArchive(row);
            for (int k : new int[] {0, 1, 255, 256, 1198, 1199}) {
                CHECKS.equal("byte " + k, x.byteAt(k), row.get(k));
            }
        });

        CHECKS.says("Promise 12", "IndexOutOfBoundsException: there is none.", () -> {
            SolidFolder x = withArchive(row);
            for (int k : new int[] {-1, 1200, 1201, LEAST, GREATEST}) {
                CHECKS.fails("byte " + k, INDEX, () -> x.byteAt(k));
            }
            x.cut(7);
            CHECKS.equal("the last behind cut", x.byteAt(6), row.get(6));
            CHECKS.fails("what was cut", INDEX, () -> x.byteAt(7));
            x.cut(0);
            CHECKS.fails("byte 0 of none", INDEX, () -> x.byteAt(0));
        });
    }

    private static void promise13() {
        CHECKS.says("Promise 13", "Byte k of the archive becomes b.", () -> {
            SolidFolder x = ofLength(1200);
            x.poke(0, 0);
            x.poke(1199, 255);
            CHECKS.equal("the first", x.byteAt(0), 0);
            CHECKS.equal("the last", x.byteAt(1199), 255);
            CHECKS.equal("length", x.length(), 1200);
        });

        CHECKS.says("Promise 13", "IndexOutOfBoundsException: there is none", () -> {
            SolidFolder x = ofLength(1200);
            for (int k : new int[] {-1, 1200, LEAST, GREATEST}) {
                CHECKS.fails("poke " + k, INDEX, () -> x.poke(k, 1));
            }
            x.cut(3);
            CHECKS.equal("the last", done(() -> x.poke(2, 1)), "0");
            CHECKS.fails("behind the last", INDEX, () -> x.poke(3, 1));
            x.cut(0);
            CHECKS.fails("poke 0 of none", INDEX, () -> x.poke(0, 1));
        });

        CHECKS.says("Promise 13", "IllegalArgumentException: b is not 0 .. 255.", () -> {
            SolidFolder y = withArchive(bytes(5));
            for (int b : new int[] {-1, 256, -255, 511, LEAST, GREATEST}) {
                CHECKS.fails("b " + b, ARGUMENT, () -> y.poke(0, b));
                CHECKS.equal("the byte", y.byteAt(0), 5);
            }
            CHECKS.equal("255", done(() -> y.poke(0, 255)), "0");
            CHECKS.equal("0", done(() -> y.poke(0, 0)), "0");
        });
    }

    private static void promise14() {
        CHECKS.says("Promise 14", "Puts the n lowest bytes of a number behind the archive, the highest"
                + " first: how many it has.", () -> {
            for (int n = 1; n <= 8; n++) {
                SolidFolder x = withArchive(bytes(9));
                CHECKS.equal("put " + n, x.put(0xf1f2f3f4f5f6f7f8L, n), 1 + n);
                CHECKS.equal("bytes", archiveOf(x), "09" + "f1f2f3f4f5f6f7f8".substring(16 - 2 * n));
            }
        });

        CHECKS.says("Promise 14", "IllegalArgumentException: n is not 1 .. 8", () -> {
            for (int n : new int[] {0, 9, -1, 257, LEAST, LEAST + 1, GREATEST}) {
                SolidFolder x = withArchive(bytes(9));
                CHECKS.fails("put " + n, ARGUMENT, () -> x.put(1, n));
                CHECKS.equal("bytes", archiveOf(x), "09");
            }
        });

        CHECKS.says("Promise 14", "IllegalStateException: there would be more than 1200.", () -> {
            for (int n = 1; n <= 8; n++) {
                int some = n;
                SolidFolder fits = ofLength(1200 - n);
                CHECKS.equal("1200 by " + n, outcome(() -> fits.put(-2, some)), "1200");
                CHECKS.equal("the last byte", fits.byteAt(1199), 254);
                SolidFolder more = ofLength(1201 - n);
                CHECKS.fails("1201 by " + n, STATE, () -> more.put(-2, some));
                CHECKS.equal("length", more.length(), 1201 - n);
            }
        });
    }

    private static void promise15() {
        CHECKS.says("Promise 15", "The archive keeps its first n bytes.", () -> {
            List<Integer> row = different(1200);
            for (int n : new int[] {0, 1, 599, 1199, 1200}) {
                SolidFolder x = withArchive(row);
                x.cut(n);
                CHECKS.equal("kept", archiveOf(x), Model.hex(row.subList(0, n)));
            }
            SolidFolder again = withArchive(bytes(1, 2, 3));
            again.cut(1);
            again.put(9, 1);
            CHECKS.equal("what is put behind it", archiveOf(again), "0109");
        });

        CHECKS.says("Promise 15", "IllegalArgumentException: n is below 0", () -> {
            SolidFolder x = withArchive(bytes(1, 9));
            for (int n : new int[] {-1, -3, LEAST}) {
                CHECKS.fails("cut " + n, ARGUMENT, () -> x.cut(n));
            }
            CHECKS.fails("cut -1 of none", ARGUMENT, () -> new SolidFolder().cut(-1));
            CHECKS.equal("cut 0 of none", done(() -> new SolidFolder().cut(0)), "0");
        });

        CHECKS.says("Promise 15", "or it has not so many.", () -> {
            SolidFolder x = withArchive(bytes(1, 9));
            for (int n : new int[] {3, 1200, GREATEST}) {
                CHECKS.fails("cut " + n + " of two", ARGUMENT, () -> x.cut(n));
            }
            CHECKS.equal("cut 2 of two", done(() -> x.cut(2)), "0");
            CHECKS.equal("all is there", archiveOf(x), "0109");
            CHECKS.fails("cut 1 of none", ARGUMENT, () -> new SolidFolder().cut(1));
            CHECKS.fails("cut 1201 of 1200", ARGUMENT, () -> ofLength(1200).cut(1201));
        });
    }

    /** Seals, and looks at all bytes. */
    private static void seals(String what, List<Integer> before, List<Integer> header) {
        SolidFolder x = withArchive(before);
        x.seal();
        List<Integer> due = new ArrayList<>(before);
        for (int k = 0; k < 4; k++) {
            due.set(2 + k, Model.four(Model.crc(header)).get(k));
        }
        CHECKS.equal(what, archiveOf(x), Model.hex(due));
    }

    private static void sealsNothing(String what, List<Integer> archive) {
        SolidFolder x = withArchive(archive);
        x.seal();
        CHECKS.equal(what, archiveOf(x), Model.hex(archive));
    }

    /** Two bytes, four for the CRC, a number, and bytes behind it. */
    private static List<Integer> front(List<Integer> number, List<Integer> rest) {
        List<Integer> all = bytes(55, 122, 1, 2, 3, 4);
        all.addAll(number);
        all.addAll(rest);
        return all;
    }

    private static void promise16() {
        CHECKS.says("Promise 16", "The four bytes of the CRC become that of the header", () -> {
            for (int size : new int[] {1, 2, 9, 126, 127, 128, 129, 255, 256, 257, 1000}) {
                List<Integer> header = different(size);
                seals("a header of " + size, front(Model.number(size), header), header);
                List<Integer> streams = longer(header, 1, 2, 3);
                seals("a header of " + size + " and more", front(Model.number(size), streams), header);
            }
            seals("a header of 0", front(bytes(0), bytes()), bytes());
            seals("a header of 0 and more", front(bytes(0), bytes(8, 9)), bytes());
            seals("a size in the longer form", front(bytes(128, 3), bytes(7, 8, 9)), bytes(7, 8, 9));
            seals("a size of 0 in the longer form", front(bytes(128, 0), bytes()), bytes());
            seals("all of 1200 bytes", front(Model.number(1192), different(1192)), different(1192));
            SolidFolder x = withArchive(front(bytes(0), bytes()));
            x.seal();
            CHECKS.equal("the CRC of no bytes is 0", archiveOf(x), "377a0000000000");
            SolidFolder y = withArchive(front(bytes(9), bytes("123456789".chars().toArray())));
            y.seal();
            CHECKS.equal("the CRC that all tell", archiveOf(y), "377a2639f4cb09313233343536373839");
        });

        CHECKS.says("Promise 16", "whatever the first two are", () -> {
            for (int first : new int[] {0, 54, 56, 255}) {
                seals("first byte " + first, changed(front(bytes(2), bytes(7, 8)), 0, first), bytes(7, 8));
                seals("second byte " + first, changed(front(bytes(2), bytes(7, 8)), 1, first), bytes(7, 8));
            }
        });
    }

    private static void promise16TooShort() {
        CHECKS.says("Promise 16", "nothing when the archive is too short to have one of the size that it"
                + " tells.", () -> {
            List<Integer> whole = front(bytes(1), bytes(7));
            for (int n = 0; n < whole.size(); n++) {
                sealsNothing("only " + n + " bytes", whole.subList(0, n));
            }
            List<Integer> longForm = front(bytes(128, 1), bytes(7));
            for (int n = 0; n < longForm.size(); n++) {
                sealsNothing("only " + n + " bytes, the longer form", longForm.subList(0, n));
            }
            for (int size : new int[] {2, 127, 128, 255, 256, 1000}) {
                sealsNothing("one less than " + size, front(Model.number(size), different(size - 1)));
            }
            sealsNothing("a header of 1193 in 1200 bytes", front(Model.number(1193), different(1192)));
            sealsNothing("a header of 16383", front(Model.number(16383), different(1192)));
            sealsNothing("a header of 16384", front(bytes(192, 0), different(1192)));
            sealsNothing("a header of 32767", front(bytes(255, 255), different(1192)));
        });
    }
}
