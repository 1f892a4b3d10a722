import java.util.ArrayList;
import java.util.Collections;
import java.util.List;
import java.util.Random;

/** Runs of calls, and archives of all kinds, on the program and on the model: all answers are alike. */
public final class ModelTest {
    private static final Checks CHECKS = new Checks();
    private static final Random RANDOM = new Random(20261115);

    public static void main(String[] args) {
        for (int n = 0; n < 60; n++) {
            runOfCalls(n);
        }
        for (int n = 0; n < 400; n++) {
            writeOnce(n);
        }
        int[] answers = new int[6];
        for (int n = 0; n < 6000; n++) {
            answers[readOnce(n)]++;
        }
        for (int k = 0; k < 6; k++) {
            System.out.println("read answered " + k + ": " + answers[k] + " times");
            CHECKS.equal("read answers " + k + " at times", answers[k] > (k == 1 ? 20 : 200) ? 1 : 0, 1);
        }
        CHECKS.end();
    }

    // ---- bytes of several textures

    static List<Integer> someBytes(int n) {
        List<Integer> bytes = new ArrayList<>();
        int texture = RANDOM.nextInt(6);
        while (bytes.size() < n) {
            int i = bytes.size();
            if (texture == 0) {
                bytes.add(RANDOM.nextInt(256));
            } else if (texture == 1) {
                bytes.add(65 + RANDOM.nextInt(3));
            } else if (texture == 2) {
                bytes.add(3 * i + RANDOM.nextInt(2) & 255);
            } else if (texture == 3) {
                bytes.addAll(callBytes());
            } else if (texture == 4 && i < n - 12) {
                bytes.add(RANDOM.nextInt(256));
            } else {
                addSomeRepeat(bytes);
            }
        }
        return new ArrayList<>(bytes.subList(0, n));
    }

    private static List<Integer> callBytes() {
        int[] highest = {0, 255, 0, 255, 1, 254};
        List<Integer> bytes = new ArrayList<>(List.of(232 + RANDOM.nextInt(3)));
        for (int k = RANDOM.nextInt(4); k < 3; k++) {
            bytes.add(RANDOM.nextBoolean() ? highest[RANDOM.nextInt(6)] : RANDOM.nextInt(256));
        }
        bytes.add(highest[RANDOM.nextInt(6)]);
        return bytes;
    }

    private static void addSomeRepeat(List<Integer> bytes) {
        if (bytes.isEmpty() || RANDOM.nextInt(3) == 0) {
            bytes.add(RANDOM.nextInt(256));
            return;
        }
        int d = 1 + RANDOM.nextInt(RANDOM.nextBoolean() ? bytes.size() : Math.min(bytes.size(), 5));
        int length = 1 + RANDOM.nextInt(RANDOM.nextInt(4) == 0 ? 60 : 5);
        for (int k = 0; k < length; k++) {
            bytes.add(bytes.get(bytes.size() - d));
        }
    }

    static int someProperties() {
        int properties = -1;
        while (!Model.areProperties(properties)) {
            properties = RANDOM.nextInt(225);
        }
        return properties;
    }

    // ---- runs of calls

    private static int edge(int... values) {
        return values[RANDOM.nextInt(values.length)];
    }

    private static void runOfCalls(int run) {
        SolidFolder x = new SolidFolder();
        Model m = new Model();
        for (int n = 0; n < 512; n++) {
            both(run, x, m);
        }
        CHECKS.equal("run " + run + " in the end", Checks.sight(x), m.sight());
    }

    private static void both(int run, SolidFolder x, Model m) {
        int name = RANDOM.nextInt(4) == 0 ? edge(32, 33, 126, 127, -5) : 60 + RANDOM.nextInt(8);
        int count = RANDOM.nextInt(5) == 0 ? edge(-1, 0, 9, 200, 201) : 1 + RANDOM.nextInt(8);
        int b = RANDOM.nextInt(8) == 0 ? edge(-1, 256, 0, 255) : RANDOM.nextInt(256);
        int place = RANDOM.nextInt(8) == 0 ? edge(-1, 1200, x.length()) : RANDOM.nextInt(x.length() + 1);
        long number = RANDOM.nextLong();
        int kind = RANDOM.nextInt(16);
        if (kind == 0) {
            same(run, "begin " + name, () -> x.begin(name), () -> m.begin(name));
        } else if (kind <= 3) {
            same(run, "give " + count, () -> x.give(number, count), () -> m.give(number, count));
        } else if (kind == 4) {
            same(run, "fill " + b + ", " + count, () -> x.fill(b, count), () -> m.fill(b, count));
        } else if (kind == 5) {
            same(run, "remove " + name, () -> x.remove(name), () -> m.remove(name));
        } else if (kind <= 8) {
            int method = RANDOM.nextInt(12) == 0 ? edge(-1, 3) : RANDOM.nextInt(3);
            int filter = RANDOM.nextInt(12) == 0 ? edge(-1, 3) : RANDOM.nextInt(3);
            int properties = RANDOM.nextInt(6) == 0 ? RANDOM.nextInt(260) - 10 : someProperties();
            int distance = RANDOM.nextInt(6) == 0 ? edge(-1, 0, 17) : 1 + RANDOM.nextInt(16);
            same(run, "write " + method + ", " + properties + ", " + filter + ", " + distance,
                    () -> x.write(method, properties, filter, distance),
                    () -> m.write(method, properties, filter, distance));
        } else if (kind <= 10) {
            same(run, "read", x::read, m::read);
        } else if (kind == 11) {
            same(run, "poke " + place + ", " + b, () -> {
                x.poke(place, b);
                return 0;
            }, () -> m.poke(place, b));
        } else if (kind == 12) {
            same(run, "put " + count, () -> x.put(number, count), () -> m.put(number, count));
        } else if (kind == 13) {
            int n = RANDOM.nextBoolean() ? place : x.length();
            same(run, "cut " + n, () -> {
                x.cut(n);
                return 0;
            }, () -> m.cut(n));
        } else if (kind == 14) {
            x.seal();
            m.seal();
        } else {
            CHECKS.equal("run " + run + ": all", Checks.sight(x), m.sight());
        }
    }

    private static void same(int run, String what, Checks.Call program, Checks.Call model) {
        CHECKS.equal("run " + run + ": " + what, Checks.outcome(program), Checks.outcome(model));
    }

    // ---- writing

    private static void writeOnce(int n) {
        SolidFolder x = new SolidFolder();
        Model m = new Model();
        int size = RANDOM.nextInt(4) == 0 ? edge(0, 1, 2, 127, 128, 199, 200) : RANDOM.nextInt(201);
        List<Integer> bytes = someBytes(size);
        for (int name = 40; name < 46 && RANDOM.nextInt(5) > 0; name++) {
            x.begin(name);
            m.begin(name);
            int some = name == 45 ? bytes.size() : RANDOM.nextInt(bytes.size() + 1);
            for (int k = 0; k < some; k++) {
                int b = bytes.remove(0);
                x.give(b, 1);
                m.give(b, 1);
            }
        }
        int method = RANDOM.nextInt(3);
        int properties = someProperties();
        int filter = RANDOM.nextInt(3);
        int distance = 1 + RANDOM.nextInt(16);
        CHECKS.equal("write " + n, x.write(method, properties, filter, distance),
                m.write(method, properties, filter, distance));
        CHECKS.equal("write " + n, Checks.sight(x), m.sight());
        CHECKS.equal("read of it " + n, x.read(), m.read());
        CHECKS.equal("read of it " + n, Checks.sight(x), m.sight());
    }

    // ---- reading

    /** Packs with any repeats that are allowed, not those that the document asks a packer for. */
    static List<Integer> packAnyhow(List<Integer> bytes, int properties) {
        Model.Putter out = new Model.Putter();
        Model.State s = new Model.State(properties);
        int i = 0;
        while (i < bytes.size()) {
            int way = RANDOM.nextInt(4);
            int which = RANDOM.nextInt(4);
            long d = way == 0 && i > 0 ? distanceWithRun(bytes, i) : s.r.get(way == 1 ? 0 : which);
            int run = Model.run(bytes, i, d);
            int length = run < 2 || RANDOM.nextBoolean() ? run : 2 + RANDOM.nextInt(run - 1);
            if (way == 0 && length >= 2) {
                Model.putMatch(out, s, i, length, d);
                i += length;
            } else if (way == 1 && run >= 1) {
                Model.putShort(out, s, i);
                i++;
            } else if (way == 2 && length >= 2) {
                Model.putRepeat(out, s, i, which, length);
                i += length;
            } else {
                Model.putByte(out, s, bytes, i);
                i++;
            }
        }
        return out.bytes();
    }

    private static long distanceWithRun(List<Integer> bytes, int i) {
        int start = RANDOM.nextInt(i);
        for (int k = 0; k < i; k++) {
            int d = 1 + (start + k) % i;
            if (Model.run(bytes, i, d) >= 2) {
                return d;
            }
        }
        return 1;
    }

    /** A tree of coders that gives the bytes, in numbers from the main one on. */
    private static int plant(Model.Plan plan, List<Integer> bytes) {
        int coder = plan.coders.size();
        int kind = RANDOM.nextInt(5);
        int parameter = kind == 1 ? someProperties() : kind == 2 ? 1 + RANDOM.nextInt(16) : 0;
        plan.coders.add(new int[] {kind, parameter});
        plan.gives.add(bytes.size());
        List<List<Integer>> gets = new ArrayList<>();
        if (kind == 0) {
            gets.add(bytes);
        } else if (kind == 1) {
            gets.add(RANDOM.nextBoolean() ? packAnyhow(bytes, parameter) : Model.pack(bytes, parameter));
        } else if (kind == 2) {
            gets.add(Model.delta(bytes, parameter));
        } else if (kind == 3) {
            gets.add(Model.branch(bytes, false));
        } else {
            gets.add(Model.everySecond(bytes, 0));
            gets.add(Model.everySecond(bytes, 1));
        }
        List<Integer> sources = new ArrayList<>();
        for (List<Integer> in : gets) {
            if (plan.coders.size() < 4 && RANDOM.nextInt(3) > 0) {
                sources.add(plant(plan, in));
            } else {
                sources.add(-1 - plan.streams.size());
                plan.streams.add(in);
            }
        }
        planted.add(new int[] {coder, sources.get(0), sources.size() == 2 ? sources.get(1) : 99});
        return coder;
    }

    private static List<int[]> planted = new ArrayList<>();

    private static Model.Plan somePlan() {
        Model.Plan tree = new Model.Plan();
        planted = new ArrayList<>();
        List<Integer> bytes = someBytes(RANDOM.nextInt(RANDOM.nextBoolean() ? 201 : 20));
        plant(tree, bytes);
        while (tree.streams.size() > 4) {
            tree = new Model.Plan();
            planted = new ArrayList<>();
            plant(tree, bytes);
        }
        int from = 0;
        int files = bytes.isEmpty() ? RANDOM.nextInt(7) : 1 + RANDOM.nextInt(6);
        for (int k = 0; k < files; k++) {
            int to = k == files - 1 ? bytes.size() : from + RANDOM.nextInt(bytes.size() - from + 1);
            tree.files.put(33 + 17 * k, new ArrayList<>(bytes.subList(from, to)));
            from = to;
        }
        return shuffled(tree);
    }

    /** The same coders and streams with other numbers. */
    private static Model.Plan shuffled(Model.Plan tree) {
        int c = tree.coders.size();
        List<Integer> coders = new ArrayList<>();
        for (int k = 0; k < c; k++) {
            coders.add(k);
        }
        List<Integer> streams = new ArrayList<>();
        for (int k = 0; k < tree.streams.size(); k++) {
            streams.add(k);
        }
        Collections.shuffle(coders, RANDOM);
        Collections.shuffle(streams, RANDOM);
        Model.Plan plan = new Model.Plan();
        plan.files = tree.files;
        plan.main = coders.indexOf(0);
        for (int old : streams) {
            plan.streams.add(tree.streams.get(old));
        }
        for (int old : coders) {
            plan.coders.add(tree.coders.get(old));
            plan.gives.add(tree.gives.get(old));
            for (int[] its : planted) {
                for (int j = 1; its[0] == old && j < 3 && its[j] != 99; j++) {
                    plan.sources.add(its[j] < 0 ? c + streams.indexOf(-1 - its[j]) : coders.indexOf(its[j]));
                }
            }
        }
        return plan;
    }

    private static void spoil(Model.Plan plan) {
        int what = RANDOM.nextInt(7);
        int coder = RANDOM.nextInt(plan.coders.size());
        if (what == 0) {
            plan.sources.set(RANDOM.nextInt(plan.sources.size()), RANDOM.nextInt(9));
        } else if (what == 1) {
            plan.main = RANDOM.nextInt(5);
        } else if (what == 2) {
            plan.gives.set(coder, Math.max(0, plan.gives.get(coder) + edge(-2, -1, 1, 2)));
        } else if (what == 3) {
            plan.coders.set(coder, new int[] {plan.coders.get(coder)[0], RANDOM.nextInt(230)});
        } else if (what == 4) {
            plan.coders.set(coder, new int[] {RANDOM.nextInt(6), RANDOM.nextInt(3)});
        } else if (what == 5) {
            List<Integer> stream = new ArrayList<>(plan.streams.get(0));
            for (int k = RANDOM.nextInt(3); k >= 0; k--) {
                stream.add(RANDOM.nextInt(256));
            }
            plan.streams.set(0, stream);
        } else if (plan.sources.size() > 1) {
            Collections.swap(plan.sources, 0, 1);
        }
    }

    private static int readOnce(int n) {
        Model.Plan plan = somePlan();
        if (RANDOM.nextInt(3) == 0) {
            spoil(plan);
        }
        Model m = new Model();
        m.archive = plan.bytes();
        if (m.archive.size() > 1200) {
            return readOnce(n);
        }
        int header = m.archive.size();
        for (List<Integer> stream : plan.streams) {
            header -= stream.size();
        }
        int what = RANDOM.nextInt(6);
        int size = m.archive.size();
        if (what == 0) {
            m.archive.set(RANDOM.nextInt(header), edge(0, 1, 2, 128, 255, RANDOM.nextInt(256)));
            m.seal();
        } else if (what == 1 && header < size) {
            int k = header + RANDOM.nextInt(size - header);
            m.archive.set(k, m.archive.get(k) ^ 1 << RANDOM.nextInt(8));
        } else if (what == 2 && RANDOM.nextInt(5) == 0) {
            m.archive.set(RANDOM.nextInt(size), RANDOM.nextInt(256));
        }
        SolidFolder x = Checks.withArchive(Model.hex(m.archive));
        int due = m.read();
        CHECKS.equal("read " + n + " of " + Model.hex(m.archive), x.read(), due);
        CHECKS.equal("read " + n, Checks.sight(x), m.sight());
        return due;
    }
}
