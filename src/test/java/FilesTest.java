/** Promises 1 to 8: the files in memory. */
public final class FilesTest extends Archives {
    public static void main(String[] args) {
        promise1NewObject();
        promise2Begin();
        promise3Give();
        promise4Fill();
        promise5Remove();
        promise6Files();
        promise7About();
        promise8At();
        CHECKS.end();
    }

    private static void promise1NewObject() {
        SolidFolder x = new SolidFolder();
        CHECKS.equal("new: files", x.files(), 0);
        CHECKS.equal("new: length", x.length(), 0);
        CHECKS.equal("new: read", x.read(), 1);
        CHECKS.equal("new: all", Checks.sight(x), " / ");
        new SolidFolder().begin(40);
        CHECKS.equal("new: objects have nothing in common", new SolidFolder().files(), 0);
    }

    private static void promise2Begin() {
        SolidFolder x = new SolidFolder();
        for (int name : new int[] {32, 127, 0, -1, 33 + 256, Integer.MAX_VALUE, Integer.MIN_VALUE}) {
            CHECKS.fails("begin of no name " + name, ARGUMENT, () -> x.begin(name));
        }
        CHECKS.equal("begin least name", x.begin(33), 1);
        CHECKS.equal("begin greatest name", x.begin(126), 2);
        CHECKS.fails("begin again", ARGUMENT, () -> x.begin(33));
        for (int k = 3; k <= 6; k++) {
            CHECKS.equal("begin", x.begin(60 + k), k);
        }
        String before = Checks.sight(x);
        CHECKS.fails("begin a seventh", STATE, () -> x.begin(70));
        CHECKS.fails("begin a seventh, name there", ARGUMENT, () -> x.begin(126));
        CHECKS.fails("begin a seventh, no name", ARGUMENT, () -> x.begin(127));
        CHECKS.equal("begin that throws changes nothing", Checks.sight(x), before);
        CHECKS.equal("begin: order", before, "!0()~0()?0()@0()A0()B0() / ");
    }

    private static void promise3Give() {
        SolidFolder x = new SolidFolder();
        CHECKS.fails("give without file", STATE, () -> x.give(1, 1));
        CHECKS.fails("give without file, nine", ARGUMENT, () -> x.give(1, 9));
        x.begin('a');
        for (int n : new int[] {0, -1, 9, Integer.MIN_VALUE}) {
            CHECKS.fails("give " + n, ARGUMENT, () -> x.give(1, n));
        }
        CHECKS.equal("give 8", x.give(0x8102030405060708L, 8), 8);
        CHECKS.equal("give 3", x.give(0x1122334455L, 3), 11);
        CHECKS.equal("give 1", x.give(-1, 1), 12);
        CHECKS.equal("give: bytes", Checks.sight(x), "a12(8102030405060708334455ff) / ");
        x.begin('b');
        CHECKS.equal("give to the last file", x.give(258, 2), 2);
        x.fill(7, 182);
        CHECKS.equal("give up to 200 less 1", x.give(5, 3), 187);
        String before = Checks.sight(x);
        CHECKS.fails("give 2 with room for 1", STATE, () -> x.give(1, 2));
        CHECKS.fails("give 9 with room for 1", ARGUMENT, () -> x.give(1, 9));
        CHECKS.equal("give that throws changes nothing", Checks.sight(x), before);
        CHECKS.equal("give up to 200", x.give(9, 1), 188);
        CHECKS.fails("give more than 200", STATE, () -> x.give(9, 1));
    }

    private static void promise4Fill() {
        SolidFolder x = new SolidFolder();
        CHECKS.fails("fill without file", STATE, () -> x.fill(1, 1));
        CHECKS.fails("fill without file, no byte", ARGUMENT, () -> x.fill(256, 1));
        x.begin('a');
        for (int b : new int[] {-1, 256, Integer.MIN_VALUE}) {
            CHECKS.fails("fill with " + b, ARGUMENT, () -> x.fill(b, 1));
        }
        for (int n : new int[] {0, -1, 201, Integer.MAX_VALUE}) {
            CHECKS.fails("fill " + n + " times", ARGUMENT, () -> x.fill(1, n));
        }
        CHECKS.equal("fill 0", x.fill(0, 1), 1);
        CHECKS.equal("fill 255", x.fill(255, 2), 3);
        CHECKS.equal("fill: bytes", Checks.sight(x), "a3(00ffff) / ");
        String before = Checks.sight(x);
        CHECKS.fails("fill too many", STATE, () -> x.fill(1, 198));
        CHECKS.equal("fill that throws changes nothing", Checks.sight(x), before);
        x.begin('b');
        CHECKS.fails("fill too many in all", STATE, () -> x.fill(1, 198));
        CHECKS.equal("fill up to 200 in all", x.fill(1, 197), 197);
        CHECKS.fails("fill more than 200", STATE, () -> x.fill(1, 1));
        SolidFolder y = new SolidFolder();
        y.begin('a');
        CHECKS.equal("fill 200 at once", y.fill(3, 200), 200);
    }

    private static void promise5Remove() {
        SolidFolder x = new SolidFolder();
        CHECKS.fails("remove from none", NONE, () -> x.remove('a'));
        x.begin('a');
        x.give(0x0102, 2);
        x.begin('b');
        x.give(0x030405, 3);
        x.begin('c');
        x.begin('d');
        x.give(0x06, 1);
        CHECKS.fails("remove none of that name", NONE, () -> x.remove('e'));
        CHECKS.fails("remove no name", NONE, () -> x.remove(-1));
        CHECKS.equal("remove in the middle", x.remove('b'), 3);
        CHECKS.equal("left then", Checks.sight(x), "a2(0102)c0()d1(06) / ");
        CHECKS.fails("remove again", NONE, () -> x.remove('b'));
        CHECKS.equal("remove the last", x.remove('d'), 2);
        CHECKS.equal("give to what is last then", x.give(9, 1), 1);
        CHECKS.equal("remove the first", x.remove('a'), 1);
        CHECKS.equal("begin with a name that was", x.begin('a'), 2);
        CHECKS.equal("left then", Checks.sight(x), "c1(09)a0() / ");
        CHECKS.equal("remove", x.remove('c'), 1);
        CHECKS.equal("remove the only one", x.remove('a'), 0);
        CHECKS.fails("give then", STATE, () -> x.give(1, 1));
        x.begin('z');
        CHECKS.equal("all room is there again", x.fill(1, 200), 200);
    }

    private static void promise6Files() {
        SolidFolder x = new SolidFolder();
        for (int k = 1; k <= 6; k++) {
            x.begin(50 + k);
            CHECKS.equal("files", x.files(), k);
        }
        x.remove(53);
        CHECKS.equal("files", x.files(), 5);
    }

    private static void promise7About() {
        SolidFolder x = new SolidFolder();
        CHECKS.fails("about none", INDEX, () -> x.about(0, true));
        x.begin('a');
        x.begin('b');
        x.fill(1, 17);
        CHECKS.equal("about: name", x.about(0, false), 'a');
        CHECKS.equal("about: size", x.about(0, true), 0);
        CHECKS.equal("about: name", x.about(1, false), 'b');
        CHECKS.equal("about: size", x.about(1, true), 17);
        for (int k : new int[] {-1, 2, 6, Integer.MAX_VALUE, Integer.MIN_VALUE}) {
            CHECKS.fails("about " + k, INDEX, () -> x.about(k, false));
        }
        x.remove('a');
        CHECKS.fails("about what was", INDEX, () -> x.about(1, false));
    }

    private static void promise8At() {
        SolidFolder x = new SolidFolder();
        CHECKS.fails("at none", INDEX, () -> x.at(0, 0));
        x.begin('a');
        x.give(0x0a0b, 2);
        x.begin('b');
        x.begin('c');
        x.give(0xfe, 1);
        CHECKS.equal("at", x.at(0, 1), 0x0b);
        CHECKS.equal("at", x.at(2, 0), 0xfe);
        int[][] wrong = {{0, 2}, {0, -1}, {1, 0}, {2, 1}, {3, 0}, {-1, 0}, {0, 200}, {6, 0},
            {0, Integer.MIN_VALUE}, {Integer.MAX_VALUE, Integer.MAX_VALUE}};
        for (int[] w : wrong) {
            CHECKS.fails("at " + w[0] + ", " + w[1], INDEX, () -> x.at(w[0], w[1]));
        }
    }
}
