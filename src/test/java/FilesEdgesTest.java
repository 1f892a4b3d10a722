/** The edges that promises 1 to 8 and the term "FILES" name, sentence by sentence. */
public final class FilesEdgesTest extends Archives {
    private static final int LEAST = Integer.MIN_VALUE;
    private static final int GREATEST = Integer.MAX_VALUE;

    public static void main(String[] args) {
        terms();
        whatThrows();
        promise1();
        promise2();
        promise3();
        promise4();
        promise5();
        promise6();
        promise7();
        promise8();
        CHECKS.end();
    }

    private static SolidFolder withFiles(int... names) {
        SolidFolder x = new SolidFolder();
        for (int name : names) {
            x.begin(name);
        }
        return x;
    }

    private static SolidFolder withSix() {
        return withFiles('a', 'b', 'c', 'd', 'e', 'f');
    }

    /** One file, with so many bytes. */
    private static SolidFolder withBytes(int n) {
        SolidFolder x = withFiles('a');
        if (n > 0) {
            x.fill(170, n);
        }
        return x;
    }

    private static String outcome(Checks.Call call) {
        return Checks.outcome(call);
    }

    // ---- Terms

    private static void terms() {
        CHECKS.says("What it is", "An object is used for at most 512 calls after it has been made", () -> {
            allOf512Calls();
        });

        CHECKS.says("FILES", "FILES in memory: at most 6", () -> {
            SolidFolder six = withFiles('a', 'b', 'c', 'd', 'e');
            CHECKS.equal("the sixth", outcome(() -> six.begin('f')), "6");
            CHECKS.fails("a seventh", STATE, () -> six.begin('g'));
            CHECKS.equal("files", six.files(), 6);
        });

        CHECKS.says("FILES", "in an order", () -> {
            SolidFolder x = withFiles('z', 'a', 'm', 'b', 'y', 'c');
            CHECKS.equal("as they came", filesOf(x), "z0()a0()m0()b0()y0()c0()");
            x.remove('a');
            x.remove('c');
            CHECKS.equal("as they came, without two", filesOf(x), "z0()m0()b0()y0()");
            x.begin('a');
            CHECKS.equal("with one behind", filesOf(x), "z0()m0()b0()y0()a0()");
            x.write(0, 0, 0, 0);
            x.read();
            CHECKS.equal("read", filesOf(x), "z0()m0()b0()y0()a0()");
        });

        CHECKS.says("FILES", "each with a NAME 33 .. 126", () -> {
            SolidFolder names = new SolidFolder();
            CHECKS.fails("32", ARGUMENT, () -> names.begin(32));
            CHECKS.fails("127", ARGUMENT, () -> names.begin(127));
            CHECKS.equal("33", outcome(() -> names.begin(33)), "1");
            CHECKS.equal("126", outcome(() -> names.begin(126)), "2");
            for (int name = -300; name < 400; name++) {
                int any = name;
                String due = name >= 33 && name <= 126 ? "1" : "throws.IllegalArgumentException";
                CHECKS.equal("name " + name, outcome(() -> new SolidFolder().begin(any)), due);
            }
        });

        CHECKS.says("FILES", "all different", () -> {
            SolidFolder twice = withFiles('a', 'b');
            CHECKS.fails("the first one's name", ARGUMENT, () -> twice.begin('a'));
            CHECKS.fails("the last one's name", ARGUMENT, () -> twice.begin('b'));
        });

        CHECKS.says("FILES", "bytes 0 .. 255", () -> {
            SolidFolder bytes = withFiles('a');
            bytes.fill(0, 1);
            bytes.fill(255, 1);
            bytes.give(0x80ff007fL, 4);
            CHECKS.equal("bytes", filesOf(bytes), "a6(00ff80ff007f)");
        });

        CHECKS.says("FILES", "at most 200 in all; none at first", () -> {
            CHECKS.equal("none", filesOf(withFiles('a')), "a0()");
            SolidFolder all = withSix();
            all.fill(1, 199);
            all.remove('a');
            all.begin('g');
            CHECKS.fails("201 in two files", STATE, () -> all.give(0, 2));
            CHECKS.equal("200 in two files", outcome(() -> all.give(0, 1)), "1");
            CHECKS.fails("201 in three files", STATE, () -> all.fill(0, 1));
        });
    }

    /** The 512th call answers as the first: one object, and no call of it goes beyond. */
    private static void allOf512Calls() {
        SolidFolder x = new SolidFolder();
        Model m = new Model();
        x.begin('a');
        m.begin('a');
        x.give(0x0102030401020304L, 8);
        m.give(0x0102030401020304L, 8);
        int due = m.write(2, 93, 1, 4);
        int calls = 2;
        for (; calls + 5 < 512; calls += 5) {
            CHECKS.equal("write behind " + calls + " calls", x.write(2, 93, 1, 4), due);
            CHECKS.equal("remove", x.remove('a'), 0);
            CHECKS.equal("read", x.read(), 0);
            CHECKS.equal("at", x.at(0, 7), 4);
            CHECKS.fails("about", INDEX, () -> x.about(1, true));
        }
        for (; calls < 511; calls++) {
            CHECKS.equal("length behind " + calls + " calls", x.length(), due);
        }
        CHECKS.equal("the 512th call", x.byteAt(due - 1), m.archive.get(due - 1));
    }

    // ---- what is thrown

    private static void whatThrows() {
        CHECKS.says("Terms", "Methods throw what their comments name, the one named first when several would"
                + " do", () -> {
            SolidFolder six = withSix();
            CHECKS.fails("begin of no name, with six", ARGUMENT, () -> six.begin(32));
            CHECKS.fails("begin of a name that is there, with six", ARGUMENT, () -> six.begin('a'));
            SolidFolder none = new SolidFolder();
            CHECKS.fails("give 0 without a file", ARGUMENT, () -> none.give(1, 0));
            CHECKS.fails("fill no byte without a file", ARGUMENT, () -> none.fill(256, 1));
            CHECKS.fails("fill 0 times without a file", ARGUMENT, () -> none.fill(1, 0));
            SolidFolder full = withBytes(200);
            CHECKS.fails("give 9 to what is full", ARGUMENT, () -> full.give(1, 9));
            CHECKS.fails("fill 201 times what is full", ARGUMENT, () -> full.fill(1, 201));
            CHECKS.fails("fill no byte, full", ARGUMENT, () -> full.fill(-1, 1));
        });

        CHECKS.says("Terms", "a call that throws changes nothing", () -> {
            SolidFolder x = withSix();
            x.fill(7, 196);
            x.write(1, 0, 0, 0);
            String before = Checks.sight(x);
            stays(x, before, STATE, () -> x.begin('g'));
            stays(x, before, ARGUMENT, () -> x.begin('a'));
            stays(x, before, ARGUMENT, () -> x.begin(127));
            stays(x, before, STATE, () -> x.give(-1, 5));
            stays(x, before, ARGUMENT, () -> x.give(-1, 0));
            stays(x, before, ARGUMENT, () -> x.give(-1, 9));
            stays(x, before, STATE, () -> x.fill(1, 5));
            stays(x, before, ARGUMENT, () -> x.fill(256, 1));
            stays(x, before, ARGUMENT, () -> x.fill(1, 0));
            stays(x, before, NONE, () -> x.remove('g'));
            stays(x, before, INDEX, () -> x.about(6, true));
            stays(x, before, INDEX, () -> x.at(5, 196));
        });
    }

    private static void stays(SolidFolder x, String before, Class<? extends RuntimeException> due, Checks.Act act) {
        CHECKS.fails("what is to throw", due, act);
        CHECKS.equal("all behind it", Checks.sight(x), before);
    }

    // ---- promises

    private static void promise1() {
        CHECKS.says("Promise 1", "No files, no archive.", () -> {
            SolidFolder x = new SolidFolder();
            CHECKS.equal("files", x.files(), 0);
            CHECKS.equal("length", x.length(), 0);
            CHECKS.fails("about", INDEX, () -> x.about(0, false));
            CHECKS.fails("at", INDEX, () -> x.at(0, 0));
            CHECKS.fails("remove", NONE, () -> x.remove(33));
            CHECKS.fails("give", STATE, () -> x.give(0, 1));
            CHECKS.fails("fill", STATE, () -> x.fill(0, 1));
            CHECKS.fails("byteAt", INDEX, () -> x.byteAt(0));
            CHECKS.fails("poke", INDEX, () -> x.poke(0, 0));
            CHECKS.fails("cut", ARGUMENT, () -> x.cut(1));
            CHECKS.equal("read", x.read(), 1);
            x.seal();
            x.cut(0);
            CHECKS.equal("length behind all that", x.length(), 0);
        });
    }

    private static void promise2() {
        CHECKS.says("Promise 2", "A new file, without bytes, behind the others: how many there are.", () -> {
            SolidFolder x = new SolidFolder();
            for (int k = 1; k <= 6; k++) {
                int name = 100 - k;
                CHECKS.equal("begin", outcome(() -> x.begin(name)), Integer.toString(k));
                CHECKS.equal("it is the last", x.about(k - 1, false), name);
                CHECKS.equal("it has no bytes", x.about(k - 1, true), 0);
                x.fill(k, k);
            }
            CHECKS.equal("all", filesOf(x), "c1(01)b2(0202)a3(030303)`4(04040404)_5(0505050505)^6(060606060606)");
            x.remove('^');
            x.begin('^');
            CHECKS.equal("one of a name that was has no bytes, either", x.about(5, true), 0);
            SolidFolder full = withFile(different(200));
            CHECKS.equal("begin behind 200 bytes", outcome(() -> full.begin('g')), "2");
            CHECKS.equal("they stay", filesOf(full), "f200(" + Model.hex(different(200)) + ")g0()");
        });

        CHECKS.says("Promise 2", "IllegalArgumentException: name is not 33 .. 126", () -> {
            for (int name : new int[] {32, 127, 0, -1, -33, 33 + 256, 33 + 65536, LEAST, LEAST + 33, GREATEST}) {
                SolidFolder y = new SolidFolder();
                CHECKS.fails("name " + name, ARGUMENT, () -> y.begin(name));
                CHECKS.equal("files", y.files(), 0);
            }
        });

        CHECKS.says("Promise 2", "or there is one with it", () -> {
            SolidFolder y = withFiles(33, 126);
            CHECKS.fails("33 again", ARGUMENT, () -> y.begin(33));
            CHECKS.fails("126 again", ARGUMENT, () -> y.begin(126));
            CHECKS.equal("125", outcome(() -> y.begin(125)), "3");
            y.remove(33);
            CHECKS.equal("33, which is not there any more", outcome(() -> y.begin(33)), "3");
            y.write(0, 0, 0, 0);
            y.remove(33);
            y.read();
            CHECKS.fails("33, which was read", ARGUMENT, () -> y.begin(33));
        });

        CHECKS.says("Promise 2", "IllegalStateException: there are 6.", () -> {
            SolidFolder z = withSix();
            CHECKS.fails("with six", STATE, () -> z.begin('g'));
            z.remove('c');
            CHECKS.equal("with five", outcome(() -> z.begin('g')), "6");
            CHECKS.fails("with six again", STATE, () -> z.begin('c'));
            z.write(1, 0, 0, 0);
            z.remove('a');
            z.read();
            CHECKS.fails("with six that were read", STATE, () -> z.begin('c'));
        });
    }

    private static void promise3() {
        CHECKS.says("Promise 3", "Puts the n lowest bytes of a number behind the last file, the highest"
                + " first: how many it has.", () -> {
            String[] due = {"f8", "f7f8", "f6f7f8", "f5f6f7f8", "f4f5f6f7f8", "f3f4f5f6f7f8", "f2f3f4f5f6f7f8",
                "f1f2f3f4f5f6f7f8"};
            for (int n = 1; n <= 8; n++) {
                SolidFolder x = withFiles('a', 'b');
                CHECKS.equal("give " + n, x.give(0xf1f2f3f4f5f6f7f8L, n), n);
                CHECKS.equal("bytes", filesOf(x), "a0()b" + n + "(" + due[n - 1] + ")");
                CHECKS.equal("give once more", x.give(Long.MIN_VALUE, n), 2 * n);
                String lowest = n == 8 ? "8000000000000000" : "00".repeat(n);
                CHECKS.equal("bytes", filesOf(x), "a0()b" + 2 * n + "(" + due[n - 1] + lowest + ")");
            }
        });

        CHECKS.says("Promise 3", "IllegalArgumentException: n is not 1 .. 8", () -> {
            for (int n : new int[] {0, 9, -1, -8, 257, 1 << 16 | 1, LEAST, LEAST + 1, GREATEST}) {
                SolidFolder x = withFiles('a');
                CHECKS.fails("n " + n, ARGUMENT, () -> x.give(5, n));
                CHECKS.equal("bytes", x.about(0, true), 0);
            }
        });

        CHECKS.says("Promise 3", "IllegalStateException: there is no file", () -> {
            SolidFolder x = new SolidFolder();
            CHECKS.fails("no file", STATE, () -> x.give(5, 1));
            x.begin('a');
            x.remove('a');
            CHECKS.fails("no file any more", STATE, () -> x.give(5, 1));
        });

        CHECKS.says("Promise 3", "or there would be more than 200 bytes in all.", () -> {
            for (int n = 1; n <= 8; n++) {
                int some = n;
                SolidFolder fits = withBytes(200 - n);
                CHECKS.equal("200 by " + n, outcome(() -> fits.give(5, some)), "200");
                SolidFolder more = withBytes(201 - n);
                CHECKS.fails("201 by " + n, STATE, () -> more.give(5, some));
                CHECKS.equal("bytes", more.about(0, true), 201 - n);
                SolidFolder other = withBytes(201 - n);
                other.begin('b');
                CHECKS.fails("201 by " + n + ", in two files", STATE, () -> other.give(5, some));
                other.remove('a');
                CHECKS.equal("there is room again for " + n, outcome(() -> other.give(5, some)), Integer.toString(n));
            }
        });
    }

    private static void promise4() {
        CHECKS.says("Promise 4", "Puts a byte b so many times behind the last file, likewise.", () -> {
            SolidFolder x = withFiles('a', 'b');
            CHECKS.equal("once", x.fill(0, 1), 1);
            CHECKS.equal("twice", x.fill(255, 2), 3);
            CHECKS.equal("bytes", filesOf(x), "a0()b3(00ffff)");
            SolidFolder all = withFiles('a');
            CHECKS.equal("200 times", all.fill(3, 200), 200);
            CHECKS.equal("bytes", filesOf(all), "a200(" + "03".repeat(200) + ")");
        });

        CHECKS.says("Promise 4", "IllegalArgumentException: b is not 0 .. 255", () -> {
            for (int b : new int[] {-1, 256, -128, -255, 511, LEAST, GREATEST}) {
                SolidFolder y = withFiles('a');
                CHECKS.fails("b " + b, ARGUMENT, () -> y.fill(b, 1));
                CHECKS.equal("bytes", y.about(0, true), 0);
            }
        });

        CHECKS.says("Promise 4", "or n not 1 .. 200", () -> {
            for (int n : new int[] {0, 201, -1, 256, 257, LEAST, LEAST + 1, GREATEST}) {
                SolidFolder y = withFiles('a');
                CHECKS.fails("n " + n, ARGUMENT, () -> y.fill(1, n));
                CHECKS.equal("bytes", y.about(0, true), 0);
            }
        });

        CHECKS.says("Promise 4", "IllegalStateException: as for give().", () -> {
            SolidFolder none = new SolidFolder();
            CHECKS.fails("no file", STATE, () -> none.fill(1, 1));
            for (int n : new int[] {1, 2, 100, 199}) {
                SolidFolder fits = withBytes(200 - n);
                CHECKS.equal("200 by " + n, outcome(() -> fits.fill(5, n)), "200");
                SolidFolder more = withBytes(201 - n);
                CHECKS.fails("201 by " + n, STATE, () -> more.fill(5, n));
                CHECKS.equal("bytes", more.about(0, true), 201 - n);
            }
            SolidFolder one = withBytes(1);
            CHECKS.fails("200 times behind one", STATE, () -> one.fill(5, 200));
            one.begin('b');
            CHECKS.fails("200 times in another file", STATE, () -> one.fill(5, 200));
            CHECKS.equal("199 times in another file", outcome(() -> one.fill(5, 199)), "199");
        });
    }

    private static void promise5() {
        CHECKS.says("Promise 5", "Takes a file out: how many are left.", () -> {
            String[] each = {"a1(61)", "b1(62)", "c1(63)", "d1(64)", "e1(65)", "f1(66)"};
            for (int out = 0; out < 6; out++) {
                SolidFolder x = new SolidFolder();
                StringBuilder left = new StringBuilder();
                for (int k = 0; k < 6; k++) {
                    x.begin('a' + k);
                    x.fill('a' + k, 1);
                    left.append(k == out ? "" : each[k]);
                }
                CHECKS.equal("remove", x.remove('a' + out), 5);
                CHECKS.equal("left", filesOf(x), left.toString());
            }
            SolidFolder last = withFiles(33, 126);
            CHECKS.equal("one is left", last.remove(33), 1);
            CHECKS.equal("none is left", last.remove(126), 0);
            CHECKS.equal("files", last.files(), 0);
            SolidFolder sizes = withFiles('a');
            sizes.give(0x010203, 3);
            sizes.begin('b');
            sizes.begin('c');
            sizes.give(0x0405, 2);
            CHECKS.equal("one without bytes goes", sizes.remove('b'), 2);
            CHECKS.equal("left", filesOf(sizes), "a3(010203)c2(0405)");
            CHECKS.equal("one with bytes goes", sizes.remove('a'), 1);
            CHECKS.equal("left", filesOf(sizes), "c2(0405)");
        });

        CHECKS.says("Promise 5", "NoSuchElementException: there is none of that name.", () -> {
            SolidFolder x = withFiles('a', 'b');
            for (int name : new int[] {'c', 'A', 0, -1, 32, 127, 'a' + 256, 'a' - 256, LEAST, GREATEST}) {
                CHECKS.fails("remove " + name, NONE, () -> x.remove(name));
                CHECKS.equal("files", x.files(), 2);
            }
            x.remove('b');
            CHECKS.fails("remove what is out", NONE, () -> x.remove('b'));
            x.remove('a');
            CHECKS.fails("remove the last that is out", NONE, () -> x.remove('a'));
            CHECKS.fails("remove 0 of none", NONE, () -> x.remove(0));
        });
    }

    private static void promise6() {
        CHECKS.says("Promise 6", "How many files there are.", () -> {
            SolidFolder x = new SolidFolder();
            CHECKS.equal("none", x.files(), 0);
            for (int k = 1; k <= 6; k++) {
                x.begin(40 + k);
                CHECKS.equal("begun", x.files(), k);
            }
            CHECKS.fails("a seventh", STATE, () -> x.begin(47));
            CHECKS.equal("six", x.files(), 6);
            x.write(0, 0, 0, 0);
            for (int k = 5; k >= 0; k--) {
                x.remove(41 + k);
                CHECKS.equal("removed", x.files(), k);
            }
            x.read();
            CHECKS.equal("read", x.files(), 6);
        });
    }

    private static SolidFolder sixAndAllBytes() {
        SolidFolder x = withFiles(33, 60, 70, 80, 90, 126);
        x.fill(9, 200);
        return x;
    }

    private static void promise7() {
        CHECKS.says("Promise 7", "The name of file k (from 0), or its size.", () -> {
            SolidFolder x = sixAndAllBytes();
            CHECKS.equal("the first one's name", x.about(0, false), 33);
            CHECKS.equal("the first one's size", x.about(0, true), 0);
            CHECKS.equal("the last one's name", x.about(5, false), 126);
            CHECKS.equal("the last one's size", x.about(5, true), 200);
        });

        CHECKS.says("Promise 7", "IndexOutOfBoundsException: there is none.", () -> {
            SolidFolder x = sixAndAllBytes();
            for (int k : new int[] {-1, 6, 7, 256, LEAST, GREATEST}) {
                CHECKS.fails("name of " + k, INDEX, () -> x.about(k, false));
                CHECKS.fails("size of " + k, INDEX, () -> x.about(k, true));
            }
            for (int n = 5; n >= 0; n--) {
                int k = n;
                x.remove(x.about(0, false));
                CHECKS.fails("behind the last", INDEX, () -> x.about(k, false));
                CHECKS.fails("behind the last", INDEX, () -> x.about(k, true));
            }
        });
    }

    /** Two bytes, none, and 198. */
    private static SolidFolder threeOf200() {
        SolidFolder x = withFiles('a');
        x.give(0xff00, 2);
        x.begin('b');
        x.begin('c');
        x.fill(128, 197);
        x.fill(1, 1);
        return x;
    }

    private static void promise8() {
        CHECKS.says("Promise 8", "Byte i of file k.", () -> {
            SolidFolder x = threeOf200();
            CHECKS.equal("first of the first", x.at(0, 0), 255);
            CHECKS.equal("last of the first", x.at(0, 1), 0);
            CHECKS.equal("first of the last", x.at(2, 0), 128);
            CHECKS.equal("last of the last", x.at(2, 197), 1);
        });

        CHECKS.says("Promise 8", "IndexOutOfBoundsException: there is none.", () -> {
            SolidFolder x = threeOf200();
            for (int i : new int[] {-1, 2, 3, 199, 200, LEAST, GREATEST}) {
                CHECKS.fails("byte " + i + " of a", INDEX, () -> x.at(0, i));
            }
            for (int i : new int[] {-1, 0, 1}) {
                CHECKS.fails("byte " + i + " of b, which has none", INDEX, () -> x.at(1, i));
            }
            for (int i : new int[] {-1, 198, 200, LEAST, GREATEST}) {
                CHECKS.fails("byte " + i + " of c", INDEX, () -> x.at(2, i));
            }
            for (int k : new int[] {-1, 3, 6, LEAST, GREATEST}) {
                CHECKS.fails("byte 0 of file " + k, INDEX, () -> x.at(k, 0));
                CHECKS.fails("byte -1 of file " + k, INDEX, () -> x.at(k, -1));
            }
            x.remove('c');
            CHECKS.fails("byte 0 of what is out", INDEX, () -> x.at(2, 0));
        });
    }
}
