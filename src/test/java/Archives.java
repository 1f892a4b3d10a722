import java.util.ArrayList;
import java.util.List;
import java.util.Map;

/** What tests of archives share: archives made by hand, and what read() answers for them. */
abstract class Archives {
    static final Class<IllegalArgumentException> ARGUMENT = IllegalArgumentException.class;
    static final Class<IllegalStateException> STATE = IllegalStateException.class;
    static final Class<IndexOutOfBoundsException> INDEX = IndexOutOfBoundsException.class;
    static final Class<java.util.NoSuchElementException> NONE = java.util.NoSuchElementException.class;

    static final Checks CHECKS = new Checks();

    static List<Integer> bytes(int... values) {
        List<Integer> list = new ArrayList<>();
        for (int v : values) {
            list.add(v);
        }
        return list;
    }

    static List<Integer> many(int b, int n) {
        return new ArrayList<>(java.util.Collections.nCopies(n, b));
    }

    static List<Integer> changed(List<Integer> row, int k, int b) {
        List<Integer> changed = new ArrayList<>(row);
        changed.set(k, b);
        return changed;
    }

    static List<Integer> longer(List<Integer> row, int... more) {
        List<Integer> longer = new ArrayList<>(row);
        longer.addAll(bytes(more));
        return longer;
    }

    static List<Integer> shorter(List<Integer> row) {
        return new ArrayList<>(row.subList(0, row.size() - 1));
    }

    /** n bytes that are all different. */
    static List<Integer> different(int n) {
        List<Integer> row = new ArrayList<>();
        for (int k = 0; k < n; k++) {
            row.add((k * 37 + 11) % 256);
        }
        return row;
    }

    /** n bytes that look like none of a rule. */
    static List<Integer> scattered(int n, int seed) {
        List<Integer> row = new ArrayList<>();
        int v = seed * 7919 + 1;
        for (int k = 0; k < n; k++) {
            v = v * 1103515245 + 12345;
            row.add(v >>> 16 & 255);
        }
        return row;
    }

    /** 140 bytes, and behind them threes of those from 129 on before: matches with plain bits. */
    static List<Integer> far(int seed) {
        List<Integer> row = scattered(140, seed);
        int v = seed * 7919 + 1;
        for (int k = 0; k < 140; k++) {
            v = v * 1103515245 + 12345;
        }
        while (row.size() <= 197) {
            v = v * 1103515245 + 12345;
            int d = 129 + (v >>> 16) % (row.size() - 128);
            for (int k = 0; k < 3; k++) {
                row.add(row.get(row.size() - d));
            }
        }
        return row;
    }

    static SolidFolder withFile(List<Integer> file) {
        SolidFolder x = new SolidFolder();
        x.begin('f');
        for (int b : file) {
            x.give(b, 1);
        }
        return x;
    }

    static SolidFolder withText(String text) {
        return withFile(bytes(text.chars().toArray()));
    }

    static SolidFolder withArchive(List<Integer> archive) {
        return Checks.withArchive(Model.hex(archive));
    }

    static String archiveOf(SolidFolder x) {
        return Checks.archive(x);
    }

    static String filesOf(SolidFolder x) {
        return filesIn(Checks.sight(x));
    }

    private static String filesIn(String sight) {
        return sight.substring(0, sight.indexOf(" / "));
    }

    /** What stands behind the header of an archive whose header's size is one byte. */
    static String streamOf(SolidFolder x) {
        String archive = Checks.archive(x);
        return archive.substring(14 + 2 * Integer.parseInt(archive.substring(12, 14), 16));
    }

    static SolidFolder reads(String what, List<Integer> archive, int due) {
        SolidFolder x = withArchive(archive);
        x.begin('~');
        x.give(77, 1);
        String before = Checks.sight(x);
        CHECKS.equal(what, Checks.outcome(x::read), Integer.toString(due));
        if (due != 0) {
            CHECKS.equal(what + ": all stays", Checks.sight(x), before);
        }
        return x;
    }

    static void reads(String what, Model.Plan plan, int due) {
        SolidFolder x = reads(what, plan.bytes(), due);
        if (due == 0) {
            Model model = new Model();
            model.files = plan.files;
            CHECKS.equal(what + ": files", filesOf(x), filesIn(model.sight()));
        }
    }

    /** With the CRC that the header has. */
    static List<Integer> sealed(List<Integer> header, List<Integer> streams) {
        List<Integer> all = bytes(55, 122);
        all.addAll(Model.four(Model.crc(header)));
        all.addAll(Model.number(header.size()));
        all.addAll(header);
        all.addAll(streams);
        return all;
    }

    static Model.Plan copied(List<Integer> file) {
        Model.Plan plan = new Model.Plan();
        plan.coders.add(new int[] {0, 0});
        plan.gives.add(file.size());
        plan.streams.add(file);
        plan.sources.add(1);
        plan.files.put((int) 'f', file);
        return plan;
    }

    static Model.Plan repeated(List<Integer> stream, List<Integer> file, int properties) {
        Model.Plan plan = copied(file);
        plan.coders.set(0, new int[] {1, properties});
        plan.streams.set(0, stream);
        return plan;
    }

    static Model.Plan graph(int streams, int main, int[] kinds, int... sources) {
        Model.Plan plan = new Model.Plan();
        for (int kind : kinds) {
            plan.coders.add(new int[] {kind, kind == 2 ? 1 : 0});
            plan.gives.add(0);
        }
        for (int s = 0; s < streams; s++) {
            plan.streams.add(bytes());
        }
        for (int source : sources) {
            plan.sources.add(source);
        }
        plan.main = main;
        return plan;
    }

    static List<Integer> packedBytes(List<Integer> file) {
        Packed packed = new Packed(0);
        for (int b : file) {
            packed.byteOf(b);
        }
        return packed.out.bytes();
    }

    /** The stream of what is said to come: a byte, a match m (length, distance), s, or r (which, length). */
    static String packed(String text, int properties, String... parts) {
        List<Integer> bytes = new ArrayList<>();
        text.chars().forEach(bytes::add);
        Model.Putter out = new Model.Putter();
        Model.State s = new Model.State(properties);
        int i = 0;
        for (String part : parts) {
            String[] words = part.split(" ");
            if (words[0].equals("m")) {
                Model.putMatch(out, s, i, Integer.parseInt(words[1]), Integer.parseInt(words[2]));
                i += Integer.parseInt(words[1]);
            } else if (words[0].equals("r")) {
                Model.putRepeat(out, s, i, Integer.parseInt(words[1]), Integer.parseInt(words[2]));
                i += Integer.parseInt(words[2]);
            } else if (words[0].equals("s")) {
                Model.putShort(out, s, i);
                i++;
            } else {
                for (int k = 0; k < Integer.parseInt(words[1]); k++) {
                    Model.putByte(out, s, bytes, i);
                    i++;
                }
            }
        }
        CHECKS.equal("parts go to the end of " + text, i, text.length());
        return Model.hex(out.bytes());
    }

    static void packs(String text, String... parts) {
        for (int properties : new int[] {93, 0, 3, 27, 180, 207, 191}) {
            SolidFolder x = withText(text);
            x.write(1, properties, 0, 0);
            CHECKS.equal("packed " + text, streamOf(x), packed(text, properties, parts));
            CHECKS.equal("packed, read", x.read(), 0);
        }
    }

    /** A stream of repeats that is said part by part, with the file that it gives. */
    static final class Packed {
        final List<Integer> file = new ArrayList<>();
        final Model.Putter out = new Model.Putter();
        final Model.State s;
        private final int properties;

        Packed() {
            this(93);
        }

        Packed(int properties) {
            this.properties = properties;
            s = new Model.State(properties);
        }

        Packed byteOf(int b) {
            file.add(b);
            Model.putByte(out, s, file, file.size() - 1);
            return this;
        }

        Packed bytesOf(List<Integer> row) {
            for (int b : row) {
                byteOf(b);
            }
            return this;
        }

        Packed match(int length, long d) {
            Model.putMatch(out, s, file.size(), length, d);
            return again(length, d);
        }

        Packed shortOne() {
            long d = s.r.get(0);
            Model.putShort(out, s, file.size());
            return again(1, d);
        }

        Packed repeat(int which, int length) {
            long d = s.r.get(which);
            Model.putRepeat(out, s, file.size(), which, length);
            return again(length, d);
        }

        private Packed again(int length, long d) {
            for (int k = 0; k < length; k++) {
                file.add(d > file.size() ? 0 : file.get(file.size() - (int) d));
            }
            return this;
        }

        Model.Plan plan() {
            return repeated(out.bytes(), file, properties);
        }

        void reads(String what, int due) {
            Archives.reads(what, plan(), due);
        }

        /** The size that the header tells is less than what is given. */
        void readsShorter(String what, int due) {
            file.remove(file.size() - 1);
            Archives.reads(what, plan(), due);
        }
    }
}
