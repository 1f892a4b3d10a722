import java.util.ArrayList;
import java.util.List;
import java.util.Map;

/** Promise 10: what read() answers for archives that are made by hand, right ones and wrong ones. */
public final class ReadTest extends Archives {
    public static void main(String[] args) throws Model.WrongBytes {
        front();
        header();
        numbersOfTheHeader();
        filesOfTheHeader();
        graphs();
        howManyBytes();
        bits();
        lostPlainBit();
        repeats();
        madeElsewhere();
        crcs();
        filesStayOrCome();
        CHECKS.end();
    }

    private static void front() {
        List<Integer> right = copied(bytes(1, 2, 3)).bytes();
        reads("right", right, 0);
        for (int k = 0; k < 7 + right.get(6); k++) {
            List<Integer> changed = new ArrayList<>(right);
            changed.set(k, changed.get(k) ^ 1);
            reads("another byte " + k, changed, 1);
            reads("only " + k + " bytes", right.subList(0, k), 1);
        }
        for (int k = 7 + right.get(6); k < right.size(); k++) {
            reads("only " + k + " bytes", right.subList(0, k), 2);
        }
        reads("another first byte", changed(right, 0, 54), 1);
        reads("another second byte", changed(right, 1, 121), 1);
        reads("a header of no bytes", sealed(bytes(), bytes()), 2);
        List<Integer> twoBytes = new ArrayList<>(right);
        twoBytes.add(6, 128);
        reads("header's size in two bytes", twoBytes, 0);
        reads("header's size far too great", changed(right, 6, 255), 1);
        reads("header's size without its second byte", changed(right.subList(0, 7), 6, 128), 1);
    }

    private static void header() {
        Model.Plan plan = copied(bytes(9, 8, 7));
        List<Integer> header = plan.header();
        List<Integer> stream = plan.streams.get(0);
        reads("header", sealed(header, stream), 0);
        for (int n = 0; n < header.size(); n++) {
            reads("header of " + n + " bytes", sealed(header.subList(0, n), stream), 2);
        }
        List<Integer> longer = new ArrayList<>(header);
        longer.add(0);
        reads("header goes on", sealed(longer, stream), 2);
        List<Integer> more = new ArrayList<>(stream);
        more.add(0);
        reads("more behind the streams", sealed(header, more), 2);
        reads("less than the streams", sealed(header, stream.subList(0, 2)), 2);
        // Every number of it can have the longer form: all but the name and the CRC.
        for (int k : new int[] {0, 1, 2, 3, 4, 5, 6, 7, 8, 10}) {
            List<Integer> form = new ArrayList<>(header);
            form.add(k, 128);
            reads("the longer form at " + k, sealed(form, stream), 0);
        }
        List<Integer> name = new ArrayList<>(header);
        name.add(9, 128);
        reads("a name is a byte", sealed(name, stream), 2);
        reads("a name is a byte", sealed(changed(header, 9, 128), stream), 2);
    }

    private static void numbersOfTheHeader() {
        Model.Plan plan = copied(bytes(1));
        List<Integer> header = plan.header();
        List<Integer> stream = plan.streams.get(0);
        reads("no coders", sealed(changed(header, 0, 0), stream), 2);
        reads("kind 5", sealed(changed(header, 1, 5), stream), 2);
        reads("parameter of copy", sealed(changed(header, 2, 1), stream), 2);
        reads("no streams", sealed(changed(header, 3, 0), stream), 2);
        reads("a stream less", sealed(changed(header, 4, 0), stream), 2);
        reads("main is none", sealed(changed(header, 7, 1), stream), 2);
        reads("input is none", sealed(changed(header, 6, 2), stream), 2);
        reads("input is itself", sealed(changed(header, 6, 0), stream), 3);
        reads("seven files", sealed(changed(header, 8, 7), stream), 2);
        int[][] wrongs = {{0, 1}, {3, 1}, {4, 1}, {2, 0}, {2, 17}, {1, 4}, {1, 36}, {1, 225}, {1, 12}, {3, 30000}};
        for (int[] wrong : wrongs) {
            plan.coders.set(0, wrong);
            plan.sources = wrong[0] == 4 ? bytes(1, 1) : bytes(1);
            reads("kind " + wrong[0] + ", parameter " + wrong[1], plan, 2);
        }
        for (int[] right : new int[][] {{0, 0}, {3, 0}, {2, 1}, {2, 16}}) {
            plan.coders.set(0, right);
            plan.sources = bytes(1);
            reads("kind " + right[0] + ", parameter " + right[1], plan, 0);
        }
        for (int p = 0; p < 300; p++) {
            Model.Plan repeats = repeated(bytes(0, 0, 0, 0, 0), bytes(), p);
            reads("properties " + p, repeats, Model.areProperties(p) ? 0 : 2);
        }
        fiveOfSomething();
        givenUpTo400();
    }

    private static void fiveOfSomething() {
        Model.Plan coders = copied(bytes(5, 6));
        for (int k = 1; k <= 4; k++) {
            coders.coders.add(0, new int[] {0, 0});
            coders.gives.add(2);
            coders.sources.clear();
            for (int j = 1; j <= k + 1; j++) {
                coders.sources.add(j);
            }
            reads(k + 1 + " coders in a row", coders, k < 4 ? 0 : 2);
        }
        Model.Plan streams = new Model.Plan();
        streams.coders.add(new int[] {4, 0});
        streams.coders.add(new int[] {4, 0});
        streams.coders.add(new int[] {4, 0});
        streams.gives.addAll(List.of(6, 3, 3));
        streams.sources.addAll(List.of(1, 2, 3, 4, 5, 6));
        streams.streams.addAll(List.of(bytes(1, 5), bytes(3), bytes(2, 6), bytes(4)));
        streams.files.put((int) 'f', bytes(1, 2, 3, 4, 5, 6));
        reads("four streams", streams, 0);
        streams.streams.add(bytes());
        reads("five streams", streams, 2);
    }

    private static void givenUpTo400() {
        Model.Plan plan = repeated(bytes(), bytes(), 0);
        plan.coders.add(new int[] {0, 0});
        plan.sources.clear();
        plan.sources.addAll(List.of(1, 2));
        plan.streams.set(0, many(0, 5));
        plan.gives.add(5);
        reads("a coder that gives 5", plan, 0);
        for (int n = 399; n <= 402; n++) {
            plan.streams.set(0, many(0, n));
            plan.gives.set(1, n);
            reads("a coder that gives " + n, plan, n <= 400 ? 4 : 2);
        }
    }

    private static void filesOfTheHeader() {
        Model.Plan plan = copied(bytes(1, 2, 3, 4));
        plan.files.clear();
        reads("bytes of no file", plan, 2);
        plan.files.put(33, bytes(1));
        plan.files.put(126, bytes());
        plan.files.put(60, bytes(2, 3, 4));
        reads("three files", plan, 0);
        for (int wrong : new int[] {32, 127, 0, 255}) {
            Map<Integer, List<Integer>> old = plan.files;
            plan.files = new java.util.LinkedHashMap<>(old);
            plan.files.put(wrong, bytes());
            reads("name " + wrong, plan, 2);
            plan.files = old;
        }
        List<Integer> header = plan.header();
        int lastName = header.size() - 6;
        reads("a name twice", sealed(changed(header, lastName, 33), plan.streams.get(0)), 2);
        reads("a byte less in files", sealed(changed(header, lastName + 1, 2), plan.streams.get(0)), 2);
        reads("a byte more in files", sealed(changed(header, lastName + 1, 4), plan.streams.get(0)), 2);
        plan.files.put(61, bytes());
        plan.files.put(62, bytes());
        plan.files.put(63, bytes());
        reads("six files", plan, 0);
        plan.files.put(64, bytes());
        reads("seven files", plan, 2);
        reads("200 bytes", copied(many(7, 200)), 0);
        reads("201 bytes", copied(many(7, 201)), 2);
        Model.Plan two = copied(many(7, 201));
        two.files.put((int) 'f', many(7, 100));
        two.files.put((int) 'g', many(7, 101));
        reads("201 bytes in two", two, 2);
        Model.Plan none = copied(bytes());
        none.files.clear();
        reads("no files", none, 0);
    }

    private static void graphs() {
        reads("one", graph(1, 0, new int[] {0}, 1), 0);
        reads("two in a row", graph(1, 0, new int[] {0, 3}, 1, 2), 0);
        reads("two in a row, main is the last", graph(1, 1, new int[] {0, 3}, 2, 0), 0);
        reads("main is not the last in the row", graph(1, 1, new int[] {0, 3}, 1, 2), 3);
        reads("a stream without use", graph(2, 0, new int[] {0}, 1), 3);
        reads("a stream without use", graph(2, 0, new int[] {0}, 2), 3);
        reads("a stream used twice", graph(1, 0, new int[] {4}, 1, 1), 3);
        reads("two streams, one used twice", graph(2, 0, new int[] {4}, 2, 2), 3);
        reads("join", graph(2, 0, new int[] {4}, 2, 1), 0);
        reads("a coder without use", graph(2, 0, new int[] {0, 0}, 2, 3), 3);
        reads("a coder used twice", graph(1, 0, new int[] {4, 0}, 1, 1, 2), 3);
        reads("main used", graph(1, 0, new int[] {4}, 0, 1), 3);
        reads("main used by another", graph(1, 0, new int[] {0, 0}, 1, 0), 3);
        reads("a ring apart", graph(1, 0, new int[] {0, 0, 0}, 3, 2, 1), 3);
        reads("one that gets its own bytes", graph(1, 0, new int[] {0, 0}, 2, 1), 3);
        reads("a ring with a stream", graph(2, 0, new int[] {0, 4, 0}, 3, 2, 4, 1), 3);
        reads("two joins", graph(3, 2, new int[] {4, 0, 4}, 3, 5, 4, 0, 1), 0);
        reads("a row of four", graph(1, 2, new int[] {0, 2, 3, 2}, 3, 0, 1, 4), 0);
        reads("a row of three and a ring", graph(1, 2, new int[] {0, 2, 3, 2}, 4, 1, 3, 0), 3);
        Model.Plan wrongBoth = graph(2, 0, new int[] {0}, 1);
        wrongBoth.streams.set(0, bytes(1));
        reads("3 comes before 4", wrongBoth, 3);
        wrongBoth.main = 1;
        reads("2 comes before 3", wrongBoth, 2);
        reads("no streams at all", graph(0, 0, new int[] {0}, 0), 2);
    }

    private static void howManyBytes() {
        for (int kind : new int[] {0, 2, 3}) {
            Model.Plan plan = graph(1, 0, new int[] {kind}, 1);
            for (int n = 0; n < 3; n++) {
                plan.streams.set(0, many(0, n));
                plan.gives.set(0, 1);
                plan.files.put((int) 'f', many(0, 1));
                reads("kind " + kind + " gets " + n + ", gives 1", plan, n == 1 ? 0 : 4);
            }
        }
        int[][] sizes = {{0, 0, 0}, {1, 0, 0}, {1, 1, 0}, {0, 1, 4}, {2, 1, 0}, {2, 0, 4}, {3, 1, 4},
            {2, 3, 4}, {3, 3, 0}, {3, 2, 0}};
        for (int[] size : sizes) {
            for (int more = -1; more <= 1; more++) {
                Model.Plan plan = graph(2, 0, new int[] {4}, 1, 2);
                int gives = Math.max(0, size[0] + size[1] + more);
                plan.streams.set(0, many(5, size[0]));
                plan.streams.set(1, many(5, size[1]));
                plan.gives.set(0, gives);
                plan.files.put((int) 'f', many(5, gives));
                boolean right = gives == size[0] + size[1];
                reads("join of " + size[0] + ", " + size[1] + " gives " + gives, plan, right ? size[2] : 4);
            }
        }
        Model.Plan later = graph(1, 0, new int[] {0, 0}, 1, 2);
        later.gives.set(1, 1);
        later.streams.set(0, bytes(1));
        reads("a coder gets more than it gives", later, 4);
        later.gives.set(0, 1);
        later.files.put((int) 'f', bytes(1));
        reads("all get what they give", later, 0);
    }

    private static void bits() {
        reads("no bytes of five", repeated(bytes(0, 0, 0, 0, 0), bytes(), 0), 0);
        reads("V as great as can be", repeated(bytes(0, 255, 255, 255, 254), bytes(), 0), 0);
        reads("V as great as RANGE", repeated(bytes(0, 255, 255, 255, 255), bytes(), 0), 4);
        reads("V of five bytes", repeated(bytes(1, 0, 0, 0, 0), bytes(), 0), 4);
        reads("four bytes", repeated(bytes(0, 0, 0, 0), bytes(), 0), 4);
        reads("no bytes", repeated(bytes(), bytes(), 0), 4);
        reads("six bytes", repeated(bytes(0, 0, 0, 0, 0, 0), bytes(), 0), 4);
        List<Integer> file = bytes(1, 2, 3, 1, 2, 3, 9, 200, 1, 2, 3, 9);
        List<Integer> right = Model.pack(file, 93);
        reads("packed", repeated(right, file, 93), 0);
        int last = right.size() - 1;
        List<Integer> other = changed(right, last, (right.get(last) + 1) & 255);
        reads("what V is in the end does not matter", repeated(other, file, 93), 0);
        reads("a byte lacks", repeated(right.subList(0, last), file, 93), 4);
        List<Integer> longer = new ArrayList<>(right);
        longer.add(0);
        reads("a byte is left over", repeated(longer, file, 93), 4);
        List<Integer> more = new ArrayList<>(file);
        more.add(0);
        reads("a byte more is told", repeated(right, more, 93), 4);
        // Some of these end with a multiplication behind the last bit: its byte must be there, too.
        for (int n = 1; n < 60; n++) {
            List<Integer> one = many(170, n);
            one.add(n);
            List<Integer> stream = packedBytes(one);
            reads("bytes alone", repeated(stream, one, 0), 0);
            reads("bytes alone, one lacks", repeated(stream.subList(0, stream.size() - 1), one, 0), 4);
        }
    }

    /**
     * A plain bit halves an odd range, and V stands in what the halves leave out. Whoever does
     * not look there goes on to the end without any other fault, and finds another CRC.
     */
    private static void lostPlainBit() throws Model.WrongBytes {
        int tried = 0;
        for (int seed = 0; seed < 40; seed++) {
            List<Integer> file = new ArrayList<>();
            for (int i = 0; i < 134; i++) {
                file.add(i * (seed + 3) + i * i & 255);
            }
            Model.Putter out = new Model.Putter();
            Model.State s = new Model.State(0);
            for (int i = 0; i < file.size(); i++) {
                Model.putByte(out, s, file, i);
            }
            // With chances that were never used the range is even there: so some matches before.
            while (file.size() < 194) {
                int d = 129 + (file.size() * (seed + 1)) % (file.size() - 129);
                Model.putMatch(out, s, file.size(), 2, d);
                file.add(file.get(file.size() - d));
                file.add(file.get(file.size() - d));
            }
            out.bit("first" + s.state + "," + s.p(file.size()), 1);
            out.bit("second" + s.state, 0);
            Model.putLength(out, "match", s.p(file.size()), 2);
            out.tree("slot0", 6, 14);
            if (!out.putLost()) {
                continue;
            }
            List<Integer> stream = out.bytes();
            stream.addAll(many(0, 20));
            file.addAll(bytes(0, 0));
            Model.Taker lenient = new Model.Taker(stream, true);
            List<Integer> got = Model.unpack(lenient, file.size(), 0);
            CHECKS.equal("without the look there is no fault", got.size(), file.size());
            reads("a plain bit's V", repeated(stream.subList(0, lenient.used()), file, 0), 4);
            tried++;
        }
        CHECKS.equal("plain bits were tried", tried > 3 ? 1 : 0, 1);
    }

    private static void repeats() {
        new Packed().shortOne().reads("a short one at the beginning", 4);
        new Packed().repeat(0, 2).reads("a repeat at the beginning", 4);
        new Packed().match(2, 1).reads("a match at the beginning", 4);
        new Packed().byteOf(3).shortOne().reads("a short one", 0);
        new Packed().byteOf(3).match(2, 1).reads("a match", 0);
        new Packed().byteOf(3).match(2, 2).reads("a match from before the beginning", 4);
        new Packed().byteOf(3).repeat(3, 2).reads("a repeat of r3", 0);
        new Packed().byteOf(3).match(199, 1).reads("a match up to 200", 0);
        new Packed().byteOf(3).match(199, 1).readsShorter("a match beyond the size", 4);
        new Packed().byteOf(3).repeat(1, 2).readsShorter("a repeat beyond the size", 4);
        new Packed().byteOf(3).match(273, 1).reads("a match of 273 is too much for files", 2);
        // What the files are is not looked at before all bytes are there: 4 comes before 5.
        new Packed().byteOf(3).match(2, 1).byteOf(9).match(2, 4).reads("a match of all so far", 0);
        new Packed().byteOf(3).match(2, 1).byteOf(9).match(2, 5).reads("a match of one more", 4);
        Packed far = new Packed();
        for (int i = 0; i < 190; i++) {
            far.byteOf(i);
        }
        far.match(3, 190).match(2, 130).repeat(1, 2).shortOne().byteOf(9).reads("great distances", 0);
        Packed huge = new Packed().byteOf(1);
        huge.match(2, Integer.MAX_VALUE).reads("a distance beyond all", 4);
        Packed manyKinds = new Packed().byteOf(1).byteOf(2).byteOf(1).byteOf(3);
        manyKinds.match(2, 4).byteOf(8).match(2, 2).byteOf(7).match(3, 5).repeat(3, 2).repeat(2, 4);
        manyKinds.repeat(1, 11).shortOne().shortOne().byteOf(5).repeat(0, 20).byteOf(5).byteOf(5).shortOne();
        manyKinds.reads("all kinds", 0);
        longestMatch();
        outerRepeats();
    }

    /** A coder that is not the main one may give more than 200 bytes, but they must be somebody's. */
    private static void outerRepeats() {
        List<Integer> file = new ArrayList<>();
        for (int i = 0; i < 200; i++) {
            file.add(i * i * 7 + i / 3 & 255);
        }
        List<Integer> inner = packedBytes(file);
        Model.Plan plan = repeated(Model.pack(inner, 93), file, 0);
        plan.coders.add(new int[] {1, 93});
        plan.sources.clear();
        plan.sources.addAll(List.of(1, 2));
        plan.gives.add(inner.size());
        CHECKS.equal("packed twice is more than 200 bytes", inner.size() > 200 ? 1 : 0, 1);
        reads("packed twice", plan, 0);
        plan.gives.set(1, inner.size() - 1);
        reads("packed twice, one byte less", plan, 4);
    }

    /** 273 bytes of one match: only a coder of repeats can get them, and then they are wrong for it. */
    private static void longestMatch() {
        Packed longest = new Packed().byteOf(0).match(273, 1);
        Model.Plan plan = repeated(longest.out.bytes(), bytes(), 0);
        plan.coders.add(new int[] {1, 93});
        plan.sources.clear();
        plan.sources.addAll(List.of(1, 2));
        plan.gives.add(274);
        reads("the longest match", plan, 4);
    }

    /** Streams that liblzma packed, with the CRC-32 of what it packed. */
    private static void madeElsewhere() {
        for (String[] one : ELSEWHERE) {
            int properties = Integer.parseInt(one[0]);
            SolidFolder x = Checks.withArchive(one[1]);
            CHECKS.equal("made elsewhere: properties", x.byteAt(9), properties < 128 ? properties : 128);
            CHECKS.equal("made elsewhere", x.read(), 0);
        }
    }

    private static final String[][] ELSEWHERE = {
        {"145", "377a3c5abd5b1201018091013f8082010001418082adedffe5002190444d883deb3cebac73db659cc6923850"
            + "8a38b6221f13eb89afa064990ff0a1df055ae4fed3b865771457095bc082cda311ab7606a765b7ac5b1e0100"},
        {"189", "377adb153cb412010180bd013d8093010001418093401d0e24006299155b3f814c0d92445aabb5c8178fb389"
            + "e36b84b50d38e29ba9820dd7d5fafb4b496834037109a8d55ba7896b0625e414bef71f4439edab5f8400"},
        {"91", "377a6f23bde21101015b014580880100014180888496686e002110e903e9bac6a2572cdfbd6e2133ad0f340b"
            + "f0f4e7358ec9ac677795df19ce1934d00b4e527586277df7524afa71ed07b635a3e86d570e7ecda613ce02d1"
            + "ce4b5ac896"},
        {"90", "377a139770730f01015a012e620100014162e55413f60033191d0ecb905aadefe78c65613aee7069251b24b2"
            + "b1d341b89a3d713f5a21cd4bebc94f145f5974cf806e3700"},
        {"93", "377a64b6584c1101015d01338085010001418085bec974db003b9f9787b6d50a90f84b7983c72ce0a68865f0"
            + "40bace6d06566528c7168ff4e4b94e69144c4082d39eb35d06069614450700"},
        {"191", "377a469ed6f410010180bf0133740100014174f0aefc600031989c04cd1947394874aefcff27e2b095f000f8"
            + "cb49ef75e39c4c19004789b553a5b24d4be9b96c817c6037f314ecfa69b8"},
        {"207", "377aa69beb5f12010180cf014b80a70100014180a75e2d79bf0021906e00a21ce9cd443307e33d99723cd45f"
            + "2a4d0d78207ca330e5f31ba9b8383700dce09dbfbd234cf6d8b4e3de61b6702178e0e77b5f4cad969a41ce75"
            + "ef96bfe11d166173a1f3fb00"},
        {"180", "377a2975651e12010180b4015680bc0100014180bc44c310170020e104829fb315328fd2e5fff16cf9c4fbe6"
            + "b50c98005c2b68e0ab9d5d3d31d4184de62c4a021ea43f0d361c243cea9ede51259ec2378a62ec15cda17fce"
            + "263381c9f2b1dd5799f097b922e92c5b5de57ac0ad6000"}
    };

    private static void crcs() {
        Model.Plan plan = copied(bytes(1, 2, 3, 4));
        plan.files.clear();
        plan.files.put(40, bytes(1));
        plan.files.put(41, bytes());
        plan.files.put(42, bytes(2, 3, 4));
        List<Integer> right = plan.bytes();
        reads("CRCs", right, 0);
        for (int k = right.size() - 4; k < right.size(); k++) {
            reads("another byte of a file", changed(right, k, right.get(k) ^ 128), 5);
        }
        List<Integer> header = plan.header();
        for (int file = 0; file < 3; file++) {
            for (int k = 0; k < 4; k++) {
                int place = header.size() - 4 - 6 * (2 - file) + k;
                List<Integer> other = changed(header, place, header.get(place) ^ 1);
                reads("another CRC of file " + file, sealed(other, plan.streams.get(0)), 5);
            }
        }
    }

    private static void filesStayOrCome() {
        SolidFolder x = new SolidFolder();
        x.begin('c');
        x.give(0x010203, 3);
        x.begin('a');
        x.begin('b');
        x.fill(9, 4);
        String before = filesOf(x);
        for (int method = 0; method < 3; method++) {
            for (int filter = 0; filter < 3; filter++) {
                x.write(method, 93, filter, 2);
                x.remove('a');
                x.give(5, 1);
                x.begin('d');
                CHECKS.equal("read", x.read(), 0);
                CHECKS.equal("read: files", filesOf(x), before);
            }
        }
        x.give(4, 1);
        CHECKS.equal("files that were read grow", x.about(2, true), 5);
        CHECKS.equal("and go", x.remove('c'), 2);
        x.poke(x.length() - 6, x.byteAt(x.length() - 6) ^ 64);
        String now = Checks.sight(x);
        CHECKS.equal("read of what is wrong", x.read() > 3 ? 1 : 0, 1);
        CHECKS.equal("read of what is wrong changes nothing", Checks.sight(x), now);
    }
}
