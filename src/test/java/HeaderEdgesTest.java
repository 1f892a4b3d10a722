import java.util.ArrayList;
import java.util.LinkedHashMap;
import java.util.List;

/**
 * The edges that promise 10 and the terms "CODERS", "NUMBERS", "THE HEADER" and "WRONG" name,
 * sentence by sentence: what read() answers on both sides of each.
 */
public final class HeaderEdgesTest extends Archives {
    // Where the numbers stand in the header of one coder, one stream and one file.
    private static final int CODERS = 0;
    private static final int KIND = 1;
    private static final int PARAMETER = 2;
    private static final int STREAMS = 3;
    private static final int STREAM_SIZE = 4;
    private static final int GIVES = 5;
    private static final int INPUT = 6;
    private static final int MAIN = 7;
    private static final int FILES = 8;
    private static final int NAME = 9;
    private static final int FILE_SIZE = 10;
    private static final int FILE_CRC = 11;

    private static final List<Integer> ONE = bytes(77);
    private static final List<Integer> HEADER = copied(ONE).header();

    public static void main(String[] args) {
        kinds();
        delta();
        branch();
        join();
        numbers();
        archive();
        headerCounts();
        headerBounds();
        headerFiles();
        wrong1();
        wrong2();
        wrong3();
        wrong4();
        wrong5();
        promise10();
        CHECKS.end();
    }

    /** The header of one byte in one file, with another number at a place. */
    private static List<Integer> with(int place, int number) {
        List<Integer> header = new ArrayList<>(HEADER);
        header.remove(place);
        header.addAll(place, Model.number(number));
        return header;
    }

    private static void readsWith(String what, int place, int number, int due) {
        reads(what + " " + number, sealed(with(place, number), ONE), due);
    }

    private static Model.Plan coded(int kind, int parameter, List<Integer> stream, List<Integer> file) {
        Model.Plan plan = copied(file);
        plan.coders.set(0, new int[] {kind, parameter});
        plan.streams.set(0, stream);
        return plan;
    }

    // ---- CODERS

    private static void kinds() {
        CHECKS.says("CODERS", "KINDS: 0 COPY; 1 REPEATS, its parameter being properties; 2 DELTA, a distance"
                + " 1 .. 16", () -> {
            for (int kind : new int[] {5, 6, 127, 128, 255, 256, 257, 512, 16384, 32767}) {
                readsWith("kind", KIND, kind, 2);
            }
            for (int distance : new int[] {0, 17, 127, 128, 256 + 1, 256 + 16, 16384 + 1, 32767}) {
                reads("distance " + distance, coded(2, distance, ONE, ONE), 2);
            }
            for (int distance = 1; distance <= 16; distance++) {
                reads("distance " + distance, coded(2, distance, ONE, ONE), 0);
            }
            List<Integer> none = many(0, 5);
            for (int properties = 0; properties < 600; properties++) {
                int due = Model.areProperties(properties) ? 0 : 2;
                reads("properties " + properties, coded(1, properties, none, bytes()), due);
            }
            reads("properties 32767", coded(1, 32767, none, bytes()), 2);
            reads("properties 16384", coded(1, 16384, none, bytes()), 2);
        });

        CHECKS.says("CODERS", "Parameters of 0, 3 and 4 are 0.", () -> {
            for (int parameter : new int[] {1, 2, 16, 127, 128, 256, 16384, 32767}) {
                reads("COPY, parameter " + parameter, coded(0, parameter, ONE, ONE), 2);
                reads("BRANCH, parameter " + parameter, coded(3, parameter, ONE, ONE), 2);
                Model.Plan join = graph(2, 0, new int[] {4}, 1, 2);
                join.coders.set(0, new int[] {4, parameter});
                reads("JOIN, parameter " + parameter, join, 2);
            }
            reads("COPY", coded(0, 0, ONE, ONE), 0);
            reads("BRANCH", coded(3, 0, ONE, ONE), 0);
            reads("JOIN", graph(2, 0, new int[] {4}, 1, 2), 0);
        });
    }

    private static void delta() {
        CHECKS.says("CODERS", "each byte out is that in and that out so far before (none before the"
                + " beginning), modulo 256", () -> {
            reads("no bytes", coded(2, 1, bytes(), bytes()), 0);
            reads("one byte", coded(2, 1, bytes(255), bytes(255)), 0);
            reads("beyond 255", coded(2, 1, bytes(255, 1, 255, 255), bytes(255, 0, 255, 254)), 0);
            reads("distance 2", coded(2, 2, bytes(1, 2, 3, 4, 5), bytes(1, 2, 4, 6, 9)), 0);
            for (int distance = 1; distance <= 16; distance++) {
                for (int n = distance - 1; n <= distance + 1; n++) {
                    List<Integer> file = many(200, n);
                    if (n > distance) {
                        file.set(distance, 144);
                    }
                    reads(n + " bytes, distance " + distance, coded(2, distance, many(200, n), file), 0);
                }
            }
        });
    }

    private static void branches(String what, String stream, String file) {
        reads(what, coded(3, 0, fromHex(stream), fromHex(file)), 0);
    }

    private static List<Integer> fromHex(String hex) {
        List<Integer> row = new ArrayList<>();
        for (int k = 0; k < hex.length(); k += 2) {
            row.add(Integer.parseInt(hex.substring(k, k + 2), 16));
        }
        return row;
    }

    private static void branch() {
        CHECKS.says("CODERS", "when a byte 232 or 233 at place k has four more bytes behind it", () -> {
            branches("no bytes", "", "");
            branches("232", "e805000000", "e800000000");
            branches("233", "e905000000", "e900000000");
            branches("231", "e705000000", "e705000000");
            branches("234", "ea05000000", "ea05000000");
            branches("alone", "e8", "e8");
            branches("three more", "e8000000", "e8000000");
            branches("at place 1, three more", "07e8000000", "07e8000000");
            branches("at place 1, four more", "07e806000000", "07e800000000");
            String front = "07".repeat(195);
            branches("at place 195, the last four", front + "e8c8000000", front + "e800000000");
            branches("at place 196, three more", front + "07e8000000", front + "07e8000000");
        });

        CHECKS.says("CODERS", "and the highest of them is 0 or 255", () -> {
            branches("0", "e806000000", "e801000000");
            branches("255", "e8060000ff", "e8010000ff");
            branches("1", "e806000001", "e806000001");
            branches("254", "e8060000fe", "e8060000fe");
        });

        CHECKS.says("CODERS", "the four are those of a - k - 5, but the highest is 255 if its bit 24 is 1,"
                + " else 0", () -> {
            branches("to 0", "e805000000", "e800000000");
            branches("below 0", "e804000000", "e8ffffffff");
            branches("from 255, below", "e8040000ff", "e8ffffff00");
            branches("from 255, to 0", "e8050000ff", "e8000000ff");
            branches("all the way", "e8ffffffff", "e8faffffff");
        });

        CHECKS.says("CODERS", "it goes on behind them; otherwise with the next byte", () -> {
            branches("behind them", "e805000000e90a000000", "e800000000e900000000");
            branches("not among them", "e805e80000000000", "e800e80000000000");
            branches("with one that was the highest", "e8000000e8e80a000000", "e8000000e8df0a000000");
            branches("with the next byte", "e8e806000100", "e8e800000100");
        });
    }

    private static Model.Plan joined(List<Integer> first, List<Integer> second, List<Integer> file) {
        Model.Plan plan = graph(2, 0, new int[] {4}, 1, 2);
        plan.streams.set(0, first);
        plan.streams.set(1, second);
        plan.gives.set(0, file.size());
        plan.files.put((int) 'f', file);
        return plan;
    }

    private static void join() {
        CHECKS.says("CODERS", "4 JOIN, two inputs: their bytes by turns, the first one's first.", () -> {
            reads("no bytes", joined(bytes(), bytes(), bytes()), 0);
            reads("one", joined(bytes(1), bytes(), bytes(1)), 0);
            reads("one and one", joined(bytes(1), bytes(2), bytes(1, 2)), 0);
            reads("two and one", joined(bytes(1, 3), bytes(2), bytes(1, 2, 3)), 0);
            List<Integer> all = different(200);
            reads("200", joined(Model.everySecond(all, 0), Model.everySecond(all, 1), all), 0);
            Model.Plan turned = joined(bytes(2), bytes(1, 3), bytes(1, 2, 3));
            turned.sources = bytes(2, 1);
            reads("the second stream is the first input", turned, 0);
        });
    }

    // ---- NUMBERS and THE ARCHIVE

    private static void numbers() {
        CHECKS.says("NUMBERS", "NUMBERS below 128 are one byte, others up to 16383 two: 128 + v / 256, v"
                + " modulo 256", () -> {
            for (int n : new int[] {0, 1, 126, 127, 128, 129, 199, 200}) {
                SolidFolder x = withFile(different(n));
                x.write(0, 0, 0, 0);
                String number = n < 128 ? String.format("%02x", n) : String.format("80%02x", n);
                String due = "01000001" + number + number + "01000166" + number;
                CHECKS.equal(n + " bytes are told", archiveOf(x).substring(14, 14 + due.length()), due);
            }
        });

        CHECKS.says("NUMBERS", "(read, either form, up to 32767)", () -> {
            int[] numbers = {CODERS, KIND, PARAMETER, STREAMS, STREAM_SIZE, GIVES, INPUT, MAIN, FILES, FILE_SIZE};
            List<Integer> allLong = new ArrayList<>();
            for (int place = 0; place < HEADER.size(); place++) {
                boolean number = place <= FILES || place == FILE_SIZE;
                allLong.addAll(number ? bytes(128, HEADER.get(place)) : bytes(HEADER.get(place)));
            }
            reads("all in the longer form", sealed(allLong, ONE), 0);
            for (int place : numbers) {
                List<Integer> longForm = new ArrayList<>(HEADER);
                longForm.add(place, 128);
                reads("the longer form at " + place, sealed(longForm, ONE), 0);
                for (int high : new int[] {129, 192, 255}) {
                    // 256, 16384, 32512 more: no bit of the number gets lost.
                    reads("the high byte " + high + " at " + place, sealed(changed(longForm, place, high), ONE), 2);
                }
            }
            List<Integer> right = sealed(HEADER, ONE);
            List<Integer> longSize = new ArrayList<>(right);
            longSize.add(6, 128);
            reads("the header's size in the longer form", longSize, 0);
            for (int high : new int[] {129, 192, 255}) {
                reads("the header's size with high byte " + high, changed(longSize, 6, high), 1);
            }
        });
    }

    private static void archive() {
        CHECKS.says("THE ARCHIVE", "bytes 55, 122; four: the CRC of the header, the lowest first; the number"
                + " of the header's bytes; the header; the packed streams.", () -> {
            SolidFolder x = new SolidFolder();
            x.write(0, 0, 0, 0);
            List<Integer> header = bytes(1, 0, 0, 1, 0, 0, 1, 0, 0);
            CHECKS.equal("no files", archiveOf(x), Model.hex(sealed(header, bytes())));
            SolidFolder y = withFile(ONE);
            y.write(0, 0, 0, 0);
            CHECKS.equal("one byte", archiveOf(y), Model.hex(sealed(HEADER, ONE)));
        });

        CHECKS.says("THE ARCHIVE", "-1 - r in the end.", () -> {
            // Known CRCs of no bytes, of one 0, of "a", and of "123456789".
            fileCrc(bytes(), "00000000");
            fileCrc(bytes(0), "8def02d2");
            fileCrc(bytes(255), "000000ff");
            fileCrc(bytes('a'), "43beb7e8");
            fileCrc(bytes("123456789".chars().toArray()), "2639f4cb");
        });
    }

    private static void fileCrc(List<Integer> file, String due) {
        SolidFolder x = withFile(file);
        x.write(0, 0, 0, 0);
        String archive = archiveOf(x);
        int end = archive.length() - 2 * file.size();
        CHECKS.equal("CRC of " + Model.hex(file), archive.substring(end - 8, end), due);
    }

    // ---- THE HEADER

    /** So many coders of COPY, each one getting the next one's bytes. */
    private static Model.Plan row(int coders) {
        Model.Plan plan = copied(ONE);
        for (int k = 1; k < coders; k++) {
            plan.coders.add(new int[] {0, 0});
            plan.gives.add(1);
            plan.sources.add(k + 1);
        }
        return plan;
    }

    private static void headerCounts() {
        CHECKS.says("THE HEADER", "how many coders there are, c, 1 .. 4", () -> {
            for (int coders = 1; coders <= 6; coders++) {
                reads(coders + " coders", row(coders), coders <= 4 ? 0 : 2);
            }
            Model.Plan none = copied(bytes());
            none.coders.clear();
            none.gives.clear();
            none.sources.clear();
            reads("no coders", none, 2);
            none.streams.clear();
            reads("no coders, no streams", none, 2);
            for (int coders : new int[] {0, 5, 127, 256 + 1, 16384 + 1, 32767}) {
                readsWith("coders", CODERS, coders, 2);
            }
        });

        CHECKS.says("THE HEADER", "how many packed streams, 1 .. 4", () -> {
            Model.Plan streams = graph(4, 0, new int[] {4, 4, 4}, 1, 2, 3, 4, 5, 6);
            reads("4 streams", streams, 0);
            reads("4 coders, 4 streams", graph(4, 0, new int[] {4, 4, 4, 0}, 1, 2, 3, 4, 5, 6, 7), 0);
            reads("4 coders, 5 streams", graph(5, 0, new int[] {4, 4, 4, 4}, 1, 2, 3, 4, 5, 6, 7, 8), 2);
            reads("3 streams", graph(3, 0, new int[] {4, 4}, 1, 2, 3, 4), 0);
            reads("2 streams", graph(2, 0, new int[] {4}, 1, 2), 0);
            reads("1 stream", graph(1, 0, new int[] {0}, 1), 0);
            reads("no stream", graph(0, 0, new int[] {0}, 0), 2);
            streams.streams.add(bytes());
            reads("5 streams, one without use", streams, 2);
            for (int number : new int[] {0, 5, 127, 256 + 1, 16384 + 1, 32767}) {
                readsWith("streams", STREAMS, number, 2);
            }
        });

        CHECKS.says("THE HEADER", "how many files, 0 .. 6", () -> {
            for (int files = 0; files <= 8; files++) {
                Model.Plan plan = copied(bytes());
                plan.files.clear();
                for (int k = 0; k < files; k++) {
                    plan.files.put(33 + k, bytes());
                }
                reads(files + " files", plan, files <= 6 ? 0 : 2);
            }
            for (int number : new int[] {0, 2, 7, 127, 256 + 1, 16384 + 1, 32767}) {
                readsWith("files", FILES, number, 2);
            }
        });
    }

    private static void headerBounds() {
        CHECKS.says("THE HEADER", "how many bytes each coder gives, up to 400", () -> {
            for (int n : new int[] {0, 4, 5, 6, 200, 201, 399, 400, 401, 402, 656, 32767}) {
                // A coder of repeats that gives nothing needs five bytes, so more are too many for it.
                Model.Plan plan = coded(1, 0, many(0, Math.min(n, 900)), bytes());
                plan.coders.add(new int[] {0, 0});
                plan.sources = bytes(1, 2);
                plan.gives.add(n);
                reads("an inner coder gives " + n, plan, n > 400 ? 2 : n == 5 ? 0 : 4);
            }
            for (int n : new int[] {0, 2, 255, 256, 400, 401, 256 + 1, 16384 + 1, 32767}) {
                readsWith("the main coder gives", GIVES, n, 2);
            }
        });

        CHECKS.says("THE HEADER", "a coder's number (from 0), whose bytes it gets, or, as one number, c more"
                + " than that of a packed stream", () -> {
            for (int coders = 1; coders <= 4; coders++) {
                Model.Plan plan = row(coders);
                reads("the stream is number " + coders, plan, 0);
                plan.sources.set(coders - 1, coders + 1);
                reads("number " + (coders + 1) + " is none", plan, 2);
                plan.sources.set(coders - 1, coders - 1);
                reads("number " + (coders - 1) + " is a coder", plan, 3);
            }
            reads("the last of four streams", graph(4, 0, new int[] {4, 4, 4}, 6, 1, 2, 3, 4, 5), 0);
            reads("a fifth of four streams", graph(4, 0, new int[] {4, 4, 4}, 7, 1, 2, 3, 4, 5), 2);
            for (int number : new int[] {2, 3, 127, 128, 256 + 1, 16384 + 1, 32767}) {
                readsWith("input", INPUT, number, 2);
            }
        });

        CHECKS.says("THE HEADER", "the MAIN coder's number", () -> {
            for (int coders = 1; coders <= 4; coders++) {
                for (int main = 0; main <= coders + 1; main++) {
                    Model.Plan plan = row(coders);
                    plan.main = main;
                    reads("main " + main + " of " + coders, plan, main == 0 ? 0 : main < coders ? 3 : 2);
                }
            }
            reads("the last one is main", graph(1, 3, new int[] {0, 0, 0, 0}, 4, 0, 1, 2), 0);
            for (int number : new int[] {1, 2, 127, 256, 16384, 32767}) {
                readsWith("main", MAIN, number, 2);
            }
        });
    }

    private static void headerFiles() {
        CHECKS.says("THE HEADER", "its name, a byte; its size; four bytes: its CRC, the lowest first.", () -> {
            List<Integer> longName = new ArrayList<>(HEADER);
            longName.add(NAME, 128);
            reads("a name has no longer form", sealed(longName, ONE), 2);
            SolidFolder x = reads("the CRC as it is", sealed(HEADER, ONE), 0);
            CHECKS.equal("files", filesOf(x), "f1(4d)");
            for (int k = 0; k < 4; k++) {
                int place = FILE_CRC + k;
                reads("another byte " + k, sealed(changed(HEADER, place, HEADER.get(place) ^ 128), ONE), 5);
            }
            List<Integer> turned = new ArrayList<>(HEADER.subList(0, FILE_CRC));
            for (int k = 3; k >= 0; k--) {
                turned.add(HEADER.get(FILE_CRC + k));
            }
            reads("the highest first", sealed(turned, ONE), 5);
        });

        CHECKS.says("THE HEADER", "The main coder's bytes are those of all files, one behind the other.", () -> {
            Model.Plan plan = copied(bytes(1, 2, 3));
            plan.files = new LinkedHashMap<>();
            plan.files.put((int) 'c', bytes());
            plan.files.put((int) 'b', bytes(1, 2));
            plan.files.put((int) 'd', bytes());
            plan.files.put((int) 'a', bytes(3));
            plan.files.put((int) 'e', bytes());
            reads("five files", plan, 0);
        });
    }

    // ---- WRONG

    private static void wrong1() {
        List<Integer> right = sealed(HEADER, ONE);
        CHECKS.says("WRONG", "1, when the first bytes, the CRC, or the header's size are not as said", () -> {
            reads("as said", right, 0);
            for (int b : new int[] {0, 54, 56, 255}) {
                reads("the first byte " + b, changed(right, 0, b), 1);
            }
            for (int b : new int[] {0, 121, 123, 255}) {
                reads("the second byte " + b, changed(right, 1, b), 1);
            }
            reads("the first two turned", changed(changed(right, 0, 122), 1, 55), 1);
            for (int k = 2; k < 6; k++) {
                for (int bit = 0; bit < 8; bit++) {
                    reads("byte " + k + " of the CRC", changed(right, k, right.get(k) ^ 1 << bit), 1);
                }
            }
            reads("a header's size one less", changed(right, 6, right.get(6) - 1), 1);
            reads("a header's size one more", changed(right, 6, right.get(6) + 1), 1);
            reads("a header's size beyond all bytes", changed(right, 6, right.get(6) + 2), 1);
            reads("a header's size 0", changed(right, 6, 0), 1);
            reads("another byte of the header", changed(right, 7, 2), 1);
            int last = 6 + HEADER.size();
            reads("another byte at the header's end", changed(right, last, right.get(last) ^ 1), 1);
        });

        CHECKS.says("WRONG", "or not there", () -> {
            for (int n = 0; n < 7 + HEADER.size(); n++) {
                reads("only " + n + " bytes", right.subList(0, n), 1);
            }
            reads("the whole header, but no stream", right.subList(0, 7 + HEADER.size()), 2);
            reads("the first half of a size", bytes(55, 122, 0, 0, 0, 0, 128), 1);
            reads("no size", bytes(55, 122, 0, 0, 0, 0), 1);
            reads("a size of 0, with the CRC of no bytes", bytes(55, 122, 0, 0, 0, 0, 0), 2);
            reads("a size of 0, with another CRC", bytes(55, 122, 1, 0, 0, 0, 0), 1);
            reads("a size of 32767", bytes(55, 122, 0, 0, 0, 0, 255, 255), 1);
            for (int size : new int[] {127, 128, 256, 600, 1192}) {
                reads("a header of " + size, sealed(many(1, size), bytes()), 2);
                reads("a header of " + size + " of which one lacks", shorter(sealed(many(1, size), bytes())), 1);
            }
            reads("nothing", bytes(), 1);
        });
    }

    private static void wrong2() {
        CHECKS.says("WRONG", "2, when the header is not as said: numbers out of their bounds", () -> {
            int[] least = {1, 0, 0, 1, 1, 1, 0, 0, 1};
            int[] most = {1, 0, 0, 1, 1, 1, 1, 0, 1};
            for (int place = CODERS; place <= FILES; place++) {
                // Other kinds need other parameters and streams: they are looked at elsewhere.
                for (int number = place == KIND ? 5 : 0; number <= 700; number++) {
                    boolean within = number >= least[place] && number <= most[place];
                    // The coder itself is within the bounds, but it can't be its own input.
                    boolean itself = place == INPUT && number == 0;
                    readsWith("the number at " + place + ", ", place, number, !within ? 2 : itself ? 3 : 0);
                }
            }
        });

        CHECKS.says("WRONG", "other bytes of packed streams than follow it", () -> {
            reads("one less", sealed(HEADER, bytes()), 2);
            reads("one more", sealed(HEADER, bytes(77, 0)), 2);
            for (int size : new int[] {0, 2, 127, 128, 256 + 1, 16384 + 1, 32767}) {
                readsWith("size of the stream", STREAM_SIZE, size, 2);
            }
            Model.Plan two = joined(bytes(1), bytes(2), bytes(1, 2));
            List<Integer> header = two.header();
            reads("two streams", sealed(header, bytes(1, 2)), 0);
            reads("two streams, one less", sealed(header, bytes(1)), 2);
            reads("two streams, one more", sealed(header, bytes(1, 2, 3)), 2);
            reads("two streams, none", sealed(header, bytes()), 2);
        });

        CHECKS.says("WRONG", "names that are none or not different", () -> {
            for (int name = 0; name < 256; name++) {
                int due = name >= 33 && name <= 126 ? 0 : 2;
                reads("name " + name, sealed(changed(HEADER, NAME, name), ONE), due);
            }
            Model.Plan six = copied(bytes());
            six.files = new LinkedHashMap<>();
            for (int k = 0; k < 6; k++) {
                six.files.put('a' + k, bytes());
            }
            List<Integer> sixHeader = six.header();
            for (int k = 0; k < 6; k++) {
                for (int j = 0; j < k; j++) {
                    List<Integer> twice = changed(sixHeader, NAME + 6 * k, 'a' + j);
                    reads("file " + k + " is named as " + j, sealed(twice, bytes()), 2);
                }
            }
        });

        CHECKS.says("WRONG", "more than 200 bytes of files", () -> {
            reads("200", copied(many(1, 200)), 0);
            reads("201", copied(many(1, 201)), 2);
            reads("400", copied(many(1, 400)), 2);
            filesOfSizes("200 in six", 0, 33, 33, 33, 33, 33, 35);
            filesOfSizes("201 in six", 2, 33, 33, 33, 33, 33, 36);
            filesOfSizes("200 and 0", 0, 200, 0);
            filesOfSizes("200 and 1", 2, 200, 1);
            filesOfSizes("256 in two, as none", 2, 128, 128);
        });

        CHECKS.says("WRONG", "or another number than the main coder's", () -> {
            for (int size : new int[] {0, 2, 127, 128, 200, 256 + 1, 16384 + 1, 32767}) {
                readsWith("size of the file", FILE_SIZE, size, 2);
            }
            Model.Plan none = copied(ONE);
            none.files.clear();
            reads("bytes, but no file", none, 2);
            Model.Plan inner = coded(1, 0, many(0, 5), bytes());
            inner.coders.add(new int[] {0, 0});
            inner.sources = bytes(1, 2);
            inner.gives.add(5);
            reads("the main coder gives as many, another one more", inner, 0);
            inner.files.put((int) 'f', many(0, 5));
            reads("another coder gives as many", inner, 2);
        });

        CHECKS.says("WRONG", "it does not end with the last file", () -> {
            reads("a byte more", sealed(longer(HEADER, 0), ONE), 2);
            for (int n = 0; n < HEADER.size(); n++) {
                reads("only " + n + " bytes", sealed(HEADER.subList(0, n), ONE), 2);
            }
            List<Integer> noFiles = copied(bytes()).header().subList(0, FILES);
            reads("no files", sealed(longer(noFiles, 0), bytes()), 0);
            reads("no files, a byte more", sealed(longer(noFiles, 0, 0), bytes()), 2);
            reads("a number's second byte lacks", sealed(longer(noFiles, 128), bytes()), 2);
        });
    }

    private static void filesOfSizes(String what, int due, int... sizes) {
        int total = 0;
        Model.Plan plan = copied(bytes());
        plan.files = new LinkedHashMap<>();
        for (int k = 0; k < sizes.length; k++) {
            plan.files.put('a' + k, many(9, sizes[k]));
            total += sizes[k];
        }
        plan.streams.set(0, many(9, total));
        plan.gives.set(0, total);
        reads(what, plan, due);
    }

    private static void wrong3() {
        CHECKS.says("WRONG", "3, when an output is not bound to just one input (the main one's to none)", () -> {
            reads("to one", graph(1, 0, new int[] {0, 0}, 1, 2), 0);
            reads("to none", graph(2, 0, new int[] {4, 0}, 2, 3, 3), 3);
            reads("to none, and its stream to just one", graph(2, 0, new int[] {0, 0}, 2, 3), 3);
            reads("to both inputs of one", graph(1, 0, new int[] {4, 0}, 1, 1, 2), 3);
            reads("to inputs of two", graph(2, 0, new int[] {4, 4, 0}, 1, 2, 2, 3, 4), 3);
            reads("main's to its own", graph(1, 0, new int[] {4}, 0, 1), 3);
            reads("main's to another one's", graph(1, 0, new int[] {0, 4}, 1, 0, 2), 3);
            reads("all bound to one, main's, too", graph(1, 0, new int[] {0, 0}, 1, 0), 3);
        });

        CHECKS.says("WRONG", "a packed stream not to just one", () -> {
            reads("to none", graph(2, 0, new int[] {0}, 1), 3);
            reads("the first to none", graph(2, 0, new int[] {0}, 2), 3);
            reads("to two of one coder", graph(1, 0, new int[] {4}, 1, 1), 3);
            reads("to two of two coders", graph(1, 0, new int[] {4, 0}, 1, 2, 2), 3);
            reads("one to two, one to none", graph(2, 0, new int[] {4}, 1, 1), 3);
            reads("one more input than outputs", graph(4, 0, new int[] {4, 4, 4, 4}, 1, 2, 3, 4, 5, 6, 7, 7), 3);
        });

        CHECKS.says("WRONG", "going from the main coder to those that its inputs come from, and so on, not"
                + " all are come to", () -> {
            reads("one gets its own bytes", graph(1, 0, new int[] {0, 0}, 2, 1), 3);
            reads("two get one another's", graph(1, 0, new int[] {0, 0, 0}, 3, 2, 1), 3);
            reads("three in a ring", graph(1, 0, new int[] {0, 0, 0, 0}, 4, 2, 3, 1), 3);
            reads("a ring with a stream", graph(2, 0, new int[] {0, 4}, 2, 1, 3), 3);
            reads("a ring before the main one", graph(1, 3, new int[] {0, 0, 0, 0}, 1, 2, 0, 4), 3);
            reads("four in a row", graph(1, 3, new int[] {0, 0, 0, 0}, 1, 2, 4, 0), 0);
            reads("four in a tree", graph(3, 1, new int[] {0, 4, 4, 0}, 4, 2, 0, 3, 5, 6), 0);
        });
    }

    private static void wrong4() {
        CHECKS.says("WRONG", "4, when bytes of a coder of kind 1 are wrong", () -> {
            List<Integer> stream = packedBytes(bytes(1, 2, 3));
            reads("as they must be", repeated(stream, bytes(1, 2, 3), 0), 0);
            reads("one lacks", repeated(shorter(stream), bytes(1, 2, 3), 0), 4);
            reads("one is left over", repeated(longer(stream, 0), bytes(1, 2, 3), 0), 4);
            Model.Plan inner = repeated(stream, bytes(1, 2, 3), 0);
            inner.coders.add(0, new int[] {0, 0});
            inner.sources = bytes(1, 2);
            inner.gives.add(3);
            reads("of an inner coder", inner, 0);
            inner.streams.set(0, shorter(stream));
            reads("of an inner coder, one lacks", inner, 4);
        });

        CHECKS.says("WRONG", "as many as it gives for 0, 2 and 3", () -> {
            for (int kind : new int[] {0, 2, 3}) {
                for (int gets = 0; gets < 4; gets++) {
                    for (int gives = 0; gives < 4; gives++) {
                        Model.Plan plan = coded(kind, kind == 2 ? 5 : 0, many(8, gets), many(8, gives));
                        reads("kind " + kind + " gets " + gets + ", gives " + gives, plan, gets == gives ? 0 : 4);
                    }
                }
                reads("gets 199, gives 200", coded(kind, kind == 2 ? 16 : 0, many(0, 199), many(0, 200)), 4);
                reads("gets 400, gives 200", coded(kind, kind == 2 ? 16 : 0, many(0, 400), many(0, 200)), 4);
                Model.Plan inner2 = row(2);
                inner2.coders.set(1, new int[] {kind, kind == 2 ? 1 : 0});
                inner2.gives.set(1, 2);
                reads("an inner one gives more than is there", inner2, 4);
                inner2.streams.set(0, bytes(1, 2));
                reads("the outer one gets more than it gives", inner2, 4);
            }
        });

        CHECKS.says("WRONG", "for 4 as many together, the first input as many as the second or one more", () -> {
            for (int first = 0; first < 5; first++) {
                for (int second = 0; second < 5; second++) {
                    for (int gives = 0; gives < 9; gives++) {
                        boolean right = first + second == gives && (first == second || first == second + 1);
                        Model.Plan plan = joined(many(6, first), many(6, second), many(6, gives));
                        reads(first + " and " + second + " give " + gives, plan, right ? 0 : 4);
                    }
                }
            }
            reads("100 and 100", joined(many(1, 100), many(1, 100), many(1, 200)), 0);
            reads("101 and 99", joined(many(1, 101), many(1, 99), many(1, 200)), 4);
            reads("200 and 0", joined(many(1, 200), many(1, 0), many(1, 200)), 4);
            reads("99 and 101", joined(many(1, 99), many(1, 101), many(1, 200)), 4);
        });
    }

    private static void wrong5() {
        CHECKS.says("WRONG", "5, the CRC of a file.", () -> {
            filesWithCrcs(0, 0, 0, 0);
            filesWithCrcs(5, 1, 0, 0);
            filesWithCrcs(5, 0, 1 << 31, 0);
            filesWithCrcs(5, 0, 0, 1 << 16);
            filesWithCrcs(5, -1, -1, -1);
            List<Integer> empty = copied(bytes()).header();
            reads("a file without bytes", sealed(empty, bytes()), 0);
            reads("a file without bytes, another CRC", sealed(changed(empty, empty.size() - 1, 1), bytes()), 5);
        });
    }

    /** Three files, the middle one without bytes, with other bits of their CRCs. */
    private static void filesWithCrcs(int due, int... others) {
        Model.Plan plan = copied(bytes(1, 2, 3, 4));
        plan.files = new LinkedHashMap<>();
        plan.files.put(40, bytes(1));
        plan.files.put(41, bytes());
        plan.files.put(42, bytes(2, 3, 4));
        List<Integer> header = plan.header();
        for (int file = 0; file < 3; file++) {
            for (int k = 0; k < 4; k++) {
                int place = header.size() - 4 - 6 * (2 - file) + k;
                header.set(place, header.get(place) ^ others[file] >>> (8 * k) & 255);
            }
        }
        reads("CRCs with other bits", sealed(header, bytes(1, 2, 3, 4)), due);
    }

    // ---- Promise 10

    private static void promise10() {
        CHECKS.says("Promise 10", "0, and the files are those that it has", () -> {
            SolidFolder x = withArchive(sealed(HEADER, ONE));
            for (int name = 'a'; name <= 'f'; name++) {
                x.begin(name);
            }
            x.fill(1, 200);
            CHECKS.equal("read over six files of 200 bytes", x.read(), 0);
            CHECKS.equal("files", filesOf(x), "f1(4d)");
            CHECKS.equal("read again", x.read(), 0);
            CHECKS.equal("files", filesOf(x), "f1(4d)");
            CHECKS.equal("the archive stays", archiveOf(x), Model.hex(sealed(HEADER, ONE)));
            CHECKS.equal("they can grow", Checks.outcome(() -> x.fill(1, 199)), "200");
            CHECKS.fails("up to 200", STATE, () -> x.fill(1, 1));
            Model.Plan none = copied(bytes());
            none.files.clear();
            CHECKS.equal("no files", filesOf(reads("no files", none.bytes(), 0)), "");
        });

        CHECKS.says("Promise 10", "or what is wrong (the least of 1 to 5 that is), and they stay.", () -> {
            for (int wrongs = 0; wrongs < 32; wrongs++) {
                int due = wrongs == 0 ? 0 : 1 + Integer.numberOfTrailingZeros(wrongs);
                reads("with wrongs " + Integer.toBinaryString(wrongs), withWrongs(wrongs), due);
            }
            readAfterRead();
        });
    }

    /** Bit k - 1 stands for what is told by k: any of them can be wrong without the others. */
    private static List<Integer> withWrongs(int wrongs) {
        List<Integer> file = bytes(5, 6, 7);
        List<Integer> stream = packedBytes(file);
        Model.Plan plan = repeated((wrongs & 8) == 0 ? stream : longer(stream, 0), file, 0);
        if ((wrongs & 4) != 0) {
            plan.streams.add(bytes());
        }
        List<Integer> header = plan.header();
        if ((wrongs & 16) != 0) {
            header.set(header.size() - 1, header.get(header.size() - 1) ^ 1);
        }
        if ((wrongs & 2) != 0) {
            header.add(0);
        }
        List<Integer> all = sealed(header, plan.streams.get(0));
        return (wrongs & 1) == 0 ? all : changed(all, 5, all.get(5) ^ 1);
    }

    /** What one read has learnt is nowhere to be seen in the next one, whatever both are. */
    private static void readAfterRead() {
        List<List<Integer>> archives = archivesOfAllKinds();
        for (List<Integer> first : archives) {
            for (List<Integer> second : archives) {
                SolidFolder x = withFile(bytes(1, 2, 3));
                Model m = new Model();
                m.begin('f');
                m.give(0x010203, 3);
                for (List<Integer> archive : List.of(first, second, second, first)) {
                    replaceArchive(x, archive);
                    m.archive = new ArrayList<>(archive);
                    CHECKS.equal("read behind read", Checks.outcome(x::read), Integer.toString(m.read()));
                    CHECKS.equal("all behind it", Checks.sight(x), m.sight());
                }
            }
        }
    }

    private static void replaceArchive(SolidFolder x, List<Integer> archive) {
        x.cut(0);
        for (int b : archive) {
            x.put(b, 1);
        }
    }

    private static List<List<Integer>> archivesOfAllKinds() {
        List<List<Integer>> archives = new ArrayList<>();
        for (int wrongs = 0; wrongs < 32; wrongs += wrongs == 0 ? 1 : wrongs) {
            archives.add(withWrongs(wrongs));
        }
        archives.add(sealed(HEADER, ONE));
        archives.add(sealed(changed(HEADER, CODERS, 0), ONE));
        archives.add(sealed(changed(HEADER, NAME, 32), ONE));
        archives.add(sealed(HEADER.subList(0, 4), ONE));
        archives.add(graph(1, 3, new int[] {0, 0, 0, 0}, 1, 2, 4, 0).bytes());
        Packed packed = new Packed(0).bytesOf(bytes(9, 8)).match(2, 1);
        archives.add(repeated(packed.out.bytes(packed.out.range() - 1), packed.file, 0).bytes());
        archives.add(repeated(bytes(0, 255, 255, 255, 255), bytes(), 0).bytes());
        archives.add(repeated(many(255, 9), bytes(1), 0).bytes());
        archives.add(new Packed().byteOf(5).match(2, 7).plan().bytes());
        return archives;
    }
}
