/** Promises 9 and 11 to 16: the archive is written, and changed by hand. */
public final class ArchiveTest extends Archives {
    public static void main(String[] args) {
        promise9Bytes();
        promise9Arguments();
        promise9Graphs();
        promise9Filters();
        promise9Packing();
        promise9Sizes();
        promise11Length();
        promise12ByteAt();
        promise13Poke();
        promise14Put();
        promise15Cut();
        promise16Seal();
        CHECKS.end();
    }

    private static void promise9Bytes() {
        SolidFolder x = new SolidFolder();
        x.begin('a');
        x.fill(65, 60);
        x.begin('b');
        x.give(0x6162636465666768L, 8);
        x.give(0x6162636465666768L, 8);
        CHECKS.equal("write repeats", x.write(1, 93, 0, 0), 46);
        CHECKS.equal("write repeats: bytes", Checks.archive(x), FIRST_ARCHIVE);
        SolidFolder none = new SolidFolder();
        CHECKS.equal("write no files", none.write(0, 0, 0, 0), 16);
        CHECKS.equal("write no files: bytes", Checks.archive(none).substring(12), "09" + "0100000100000100" + "00");
        CHECKS.equal("read no files", none.read(), 0);
        CHECKS.equal("write no files, repeats", none.write(1, 93, 0, 0), 21);
        CHECKS.equal("read no files, repeats", none.read(), 0);
        none.begin('q');
        CHECKS.equal("read takes the files away", none.read() + none.files(), 0);
    }

    private static final String FIRST_ARCHIVE = "377a56cc9d631501015d01124c010002613c43f0ee306210e43701b8"
            + "0020ee4e6131193080c8a71ba96a61710000";

    private static void promise9Arguments() {
        SolidFolder x = withText("some bytes");
        x.write(2, 3, 0, 0);
        String before = Checks.sight(x);
        for (int wrong : new int[] {-1, 3, Integer.MIN_VALUE, Integer.MAX_VALUE}) {
            CHECKS.fails("write method " + wrong, ARGUMENT, () -> x.write(wrong, 0, 0, 0));
            CHECKS.fails("write filter " + wrong, ARGUMENT, () -> x.write(0, 0, wrong, 1));
        }
        for (int wrong : new int[] {-1, 4, 5, 12, 28, 36, 37, 44, 49, 94, 184, 225, 300, -45, Integer.MIN_VALUE}) {
            for (int method = 0; method < 3; method++) {
                int m = method;
                CHECKS.fails("write properties " + wrong, ARGUMENT, () -> x.write(m, wrong, 0, 0));
            }
        }
        for (int wrong : new int[] {0, 17, -1, Integer.MIN_VALUE}) {
            CHECKS.fails("write distance " + wrong, ARGUMENT, () -> x.write(0, 0, 1, wrong));
        }
        CHECKS.equal("write that throws changes nothing", Checks.sight(x), before);
        for (int any : new int[] {0, 17, -1, Integer.MIN_VALUE}) {
            CHECKS.equal("distance without filter", Checks.outcome(() -> x.write(0, 0, 0, any)), "32");
            CHECKS.equal("distance with branch", Checks.outcome(() -> x.write(0, 0, 2, any)), "36");
        }
        CHECKS.equal("least distance", Checks.outcome(() -> x.write(0, 0, 1, 1)), "36");
        CHECKS.equal("greatest distance", Checks.outcome(() -> x.write(0, 0, 1, 16)), "36");
        int allowed = 0;
        for (int p = -50; p < 400; p++) {
            int properties = p;
            boolean right = Model.areProperties(p);
            allowed += right ? 1 : 0;
            String due = right ? "32" : "throws.IllegalArgumentException";
            CHECKS.equal("properties " + p, Checks.outcome(() -> x.write(0, properties, 0, 0)), due);
        }
        CHECKS.equal("properties that are allowed", allowed, 50);
    }

    /** What the header says between its size and the files. */
    private static String graphOf(SolidFolder x) {
        String archive = Checks.archive(x);
        int size = Integer.parseInt(archive.substring(12, 14), 16);
        String header = archive.substring(14, 14 + 2 * size);
        return header.substring(0, header.length() - 14);
    }

    private static void promise9Graphs() {
        SolidFolder x = withFile(bytes(200, 3, 1));
        String[] due = {
            "01" + "0000" + "01" + "03" + "03" + "01" + "00",
            "02" + "0205" + "0000" + "01" + "03" + "0303" + "0102" + "00",
            "02" + "0300" + "0000" + "01" + "03" + "0303" + "0102" + "00",
            "01" + "015d" + "01" + "08" + "03" + "01" + "00",
            "02" + "0205" + "015d" + "01" + "08" + "0303" + "0102" + "00",
            "02" + "0300" + "015d" + "01" + "08" + "0303" + "0102" + "00",
            "03" + "0400" + "015d" + "015d" + "02" + "0707" + "030201" + "01020304" + "00",
            "04" + "0205" + "0400" + "015d" + "015d" + "02" + "0707" + "03030201" + "0102030405" + "00",
            "04" + "0300" + "0400" + "015d" + "015d" + "02" + "0707" + "03030201" + "0102030405" + "00"};
        for (int method = 0; method < 3; method++) {
            for (int filter = 0; filter < 3; filter++) {
                x.write(method, 93, filter, 5);
                String what = "graph of method " + method + ", filter " + filter;
                // How long the packed streams are is told elsewhere.
                CHECKS.equal(what, withoutSizes(graphOf(x)), withoutSizes(due[3 * method + filter]));
                CHECKS.equal(what + ", read", x.read(), 0);
            }
        }
        x.write(1, 183, 0, 0);
        CHECKS.equal("properties of two bytes", graphOf(x).substring(0, 10), "0101" + "80b7" + "01");
    }

    private static String withoutSizes(String graph) {
        int place = 2 + 4 * Integer.parseInt(graph.substring(0, 2));
        int streams = Integer.parseInt(graph.substring(place, place + 2));
        return graph.substring(0, place + 2) + " " + graph.substring(place + 2 + 2 * streams);
    }

    private static void filtered(int filter, int distance, String due, int... file) {
        SolidFolder x = withFile(bytes(file));
        x.write(0, 0, filter, distance);
        CHECKS.equal("filter " + filter + ", " + distance, streamOf(x), due);
        CHECKS.equal("filter " + filter + ", read", x.read(), 0);
    }

    private static void promise9Filters() {
        filtered(1, 1, "05fa01ff", 5, 255, 0, 255);
        filtered(1, 2, "05ff1700", 5, 255, 28, 255);
        filtered(1, 3, "010203ff00", 1, 2, 3, 0, 2);
        filtered(1, 16, "010203", 1, 2, 3);
        filtered(2, 0, "e805000000", 232, 0, 0, 0, 0);
        filtered(2, 0, "e904000000", 233, 255, 255, 255, 255);
        filtered(2, 0, "00e80a010000", 0, 232, 4, 1, 0, 0);
        filtered(2, 0, "e8000000", 232, 0, 0, 0);
        filtered(2, 0, "e800000001", 232, 0, 0, 0, 1);
        filtered(2, 0, "e8000000fe", 232, 0, 0, 0, 254);
        filtered(2, 0, "ea00000000", 234, 0, 0, 0, 0);
        filtered(2, 0, "e704000000", 231, 4, 0, 0, 0);
        filtered(2, 0, "e8000000ff", 232, 251, 255, 255, 0);
        filtered(2, 0, "e8ed00000000000000", 232, 232, 0, 0, 0, 0, 0, 0, 0);
        filtered(2, 0, "e8050000" + "00" + "e90a0000" + "00", 232, 0, 0, 0, 0, 233, 0, 0, 0, 0);
        filtered(2, 0, "e8e80f000100", 232, 232, 9, 0, 1, 0);
        branchThatIsNotUndone();
    }

    /**
     * What the document's words ask for: the second byte's four are changed, the first one's are
     * not, as the bytes looked at are those of the files; read looks at others.
     */
    private static void branchThatIsNotUndone() {
        SolidFolder x = withFile(bytes(232, 232, 255, 255, 254, 0));
        x.write(0, 0, 2, 0);
        CHECKS.equal("branch in a branch", streamOf(x), "e8e80500ff00");
        CHECKS.equal("branch in a branch, read", x.read(), 5);
    }

    private static void promise9Packing() {
        packs("");
        packs("a", "b 1");
        packs("aa", "b 1", "s");
        packs("aaa", "b 1", "r 0 2");
        packs("abab", "b 4");
        packs("abcabc", "b 3", "m 3 3");
        packs("abcabca", "b 3", "m 4 3");
        // R + 1 is M: the repeat; R + 1 is below M: the match.
        packs("abcXabcYabcX", "b 4", "m 3 4", "b 1", "r 0 3", "b 1");
        packs("abcdabcYabcda", "b 4", "m 3 4", "b 1", "m 5 8");
        // Of equal runs the least distance.
        packs("abcXabcYZabc", "b 4", "m 3 4", "b 2", "m 3 5");
        packs("zabzab12zabcz", "b 3", "m 3 3", "b 2", "m 3 5", "b 2");
        // A short one only of r0; a run of two of a distance that is none of the four is no match.
        packs("abcabcQc", "b 3", "m 3 3", "b 2");
        packs("abcabcQQ", "b 3", "m 3 3", "b 2");
        packs("abcabcQbX", "b 3", "m 3 3", "b 1", "s", "b 1");
        packs("abcabcQbcQ", "b 3", "m 3 3", "b 1", "r 0 3");
        packs("abcdefghabcdefghXabZde", "b 8", "m 8 8", "b 6");
        // All four of the latest distances come to the front.
        packs("bbabbaaabaabababbbb",
                "b 1", "s", "b 1", "m 3 3", "r 1 2", "m 3 4", "r 2 2", "m 4 12", "r 3 2");
        packs("bbbabbaaabbaabababaaaa",
                "b 1", "r 0 2", "b 1", "m 3 3", "r 1 2", "m 4 5", "r 2 2", "m 4 2", "r 3 3");
        StringBuilder different = new StringBuilder();
        for (int b = 0; b < 200; b++) {
            different.append((char) (b + 40));
        }
        for (int d = 3; d <= 197; d++) {
            int length = Math.min(200 - d, Math.min(d, 3 + d % 19));
            packs(different.substring(0, d) + different.substring(0, length), "b " + d, "m " + length + " " + d);
        }
        packs(different.substring(0, 90) + different.substring(0, 90), "b 90", "m 90 90");
        packs("a".repeat(200), "b 1", "r 0 199");
        packs(different.toString(), "b 200");
    }

    private static void promise9Sizes() {
        SolidFolder x = new SolidFolder();
        x.begin('a');
        x.fill(1, 127);
        x.begin('b');
        CHECKS.equal("a size of one byte", x.write(0, 0, 0, 0), 7 + 9 + 12 + 127);
        x.fill(2, 1);
        // The packed stream's, and what the coder gives.
        CHECKS.equal("sizes of two bytes", x.write(0, 0, 0, 0), 7 + 11 + 12 + 128);
        x.fill(2, 72);
        CHECKS.equal("200 bytes", x.write(0, 0, 0, 0), 7 + 11 + 12 + 200);
        CHECKS.equal("200 bytes, read", x.read(), 0);
        x.write(1, 93, 0, 0);
        CHECKS.equal("a longer archive is gone", x.length() < 60 ? 1 : 0, 1);
        CHECKS.equal("length then", x.read(), 0);
    }

    private static void promise11Length() {
        SolidFolder x = new SolidFolder();
        CHECKS.equal("length", x.length(), 0);
        x.put(0, 5);
        CHECKS.equal("length", x.length(), 5);
        x.cut(2);
        CHECKS.equal("length", x.length(), 2);
        x.begin('a');
        CHECKS.equal("length", x.write(0, 0, 0, 0), x.length());
    }

    private static void promise12ByteAt() {
        SolidFolder x = new SolidFolder();
        CHECKS.fails("byteAt 0 of none", INDEX, () -> x.byteAt(0));
        x.put(0x80ff01, 3);
        CHECKS.equal("byteAt", x.byteAt(0), 128);
        CHECKS.equal("byteAt", x.byteAt(1), 255);
        CHECKS.equal("byteAt", x.byteAt(2), 1);
        for (int k : new int[] {-1, 3, 1200, Integer.MAX_VALUE, Integer.MIN_VALUE}) {
            CHECKS.fails("byteAt " + k, INDEX, () -> x.byteAt(k));
        }
    }

    private static void promise13Poke() {
        SolidFolder x = new SolidFolder();
        CHECKS.fails("poke none", INDEX, () -> x.poke(0, 0));
        x.put(0x010203, 3);
        x.poke(0, 255);
        x.poke(2, 0);
        CHECKS.equal("poke", Checks.archive(x), "ff0200");
        for (int k : new int[] {-1, 3, Integer.MAX_VALUE, Integer.MIN_VALUE}) {
            CHECKS.fails("poke " + k, INDEX, () -> x.poke(k, 0));
            CHECKS.fails("poke " + k + " with no byte", INDEX, () -> x.poke(k, 256));
        }
        for (int b : new int[] {-1, 256, Integer.MIN_VALUE}) {
            CHECKS.fails("poke with " + b, ARGUMENT, () -> x.poke(1, b));
        }
        CHECKS.equal("poke that throws changes nothing", Checks.archive(x), "ff0200");
    }

    private static void promise14Put() {
        SolidFolder x = new SolidFolder();
        CHECKS.equal("put 8", x.put(0x8102030405060708L, 8), 8);
        CHECKS.equal("put 2", x.put(-2, 2), 10);
        CHECKS.equal("put: bytes", Checks.archive(x), "8102030405060708fffe");
        for (int n : new int[] {0, 9, -1, Integer.MIN_VALUE}) {
            CHECKS.fails("put " + n, ARGUMENT, () -> x.put(1, n));
        }
        for (int k = 10; k < 1199; k++) {
            x.put(k, 1);
        }
        CHECKS.equal("put: length", x.length(), 1199);
        CHECKS.fails("put 2 with room for 1", STATE, () -> x.put(1, 2));
        CHECKS.fails("put 9 with room for 1", ARGUMENT, () -> x.put(1, 9));
        CHECKS.equal("put that throws changes nothing", x.length(), 1199);
        CHECKS.equal("put the last", x.put(7, 1), 1200);
        CHECKS.equal("put: the last byte", x.byteAt(1199), 7);
        CHECKS.fails("put one more", STATE, () -> x.put(1, 1));
        CHECKS.equal("read of 1200 bytes", x.read(), 1);
    }

    private static void promise15Cut() {
        SolidFolder x = new SolidFolder();
        x.put(0x010203, 3);
        for (int n : new int[] {-1, 4, Integer.MAX_VALUE, Integer.MIN_VALUE}) {
            CHECKS.fails("cut " + n, ARGUMENT, () -> x.cut(n));
        }
        x.cut(3);
        CHECKS.equal("cut nothing", Checks.archive(x), "010203");
        x.cut(1);
        CHECKS.equal("cut", Checks.archive(x), "01");
        x.put(9, 1);
        CHECKS.equal("put behind what is left", Checks.archive(x), "0109");
        x.cut(0);
        CHECKS.equal("cut all", x.length(), 0);
        x.cut(0);
        CHECKS.fails("cut of none", ARGUMENT, () -> x.cut(1));
    }

    private static void seals(String before, String after) {
        SolidFolder x = Checks.withArchive(before);
        x.seal();
        CHECKS.equal("seal " + before, Checks.archive(x), after);
    }

    private static void promise16Seal() {
        seals("", "");
        seals("377a01020304", "377a01020304");
        seals("377a0102030401", "377a0102030401");
        seals("377a010203040261", "377a010203040261");
        seals("377a0102030480", "377a0102030480");
        seals("377a010203048001", "377a010203048001");
        seals("377a01020304ffff00", "377a01020304ffff00");
        // The CRC of no bytes is 0, that of "a" e8b7be43.
        seals("377a0102030400", "377a0000000000");
        seals("377a010203048000", "377a000000008000");
        seals("377a010203040161", "377a43beb7e80161");
        seals("0000010203040161", "000043beb7e80161");
        seals("377a01020304016162", "377a43beb7e8016162");
        seals("377a01020304800161", "377a43beb7e8800161");
        // "123456789": cbf43926.
        seals("377a0000000009313233343536373839", "377a2639f4cb09313233343536373839");
        SolidFolder x = withText("sealed");
        x.write(1, 0, 2, 0);
        String before = Checks.archive(x);
        x.seal();
        CHECKS.equal("seal of what is right", Checks.archive(x), before);
        x.poke(2, x.byteAt(2) ^ 1);
        CHECKS.equal("read with another CRC", x.read(), 1);
        x.seal();
        CHECKS.equal("seal", Checks.archive(x), before);
    }
}
