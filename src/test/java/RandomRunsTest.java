import java.lang.reflect.InvocationTargetException;
import java.lang.reflect.Method;
import java.lang.reflect.Modifier;
import java.nio.charset.StandardCharsets;
import java.util.ArrayList;
import java.util.Arrays;
import java.util.Comparator;
import java.util.List;
import java.util.Random;

/** Random runs of calls, of which HideReader and NaiveReader must answer each alike. */
public final class RandomRunsTest {
    private static final int CALLS = 500;
    private static final int[] EDGES = {Integer.MIN_VALUE, Integer.MAX_VALUE, -2, 12, 13, 40, 60, 61, 99, 100, 999, 1000, 1001, 4095, 4096, 65536};

    private static final String[] ACTS = {"season", "burn", "burn", "burn", "sell", "sell", "clean", "undo", "redo", "seen"};

    private final Random random;
    private final TextMaker texts;
    private final HideReader reader = new HideReader();
    private final NaiveReader naive = new NaiveReader();
    private final List<String> log = new ArrayList<>();

    private RandomRunsTest(long seed) {
        random = new Random(seed);
        texts = new TextMaker(random);
    }

    public static void main(String[] args) throws Exception {
        int runs = args.length > 0 ? Integer.parseInt(args[0]) : 600;
        List<Method> methods = new ArrayList<>();
        for (Method m : HideReader.class.getDeclaredMethods()) {
            if (Modifier.isPublic(m.getModifiers())) methods.add(m);
        }
        methods.sort(Comparator.comparing(Method::getName));
        for (int run = 0; run < runs; run++) {
            new RandomRunsTest(run).go(run, methods);
        }
        System.out.println(runs + " random runs answered alike");
    }

    private void go(int run, List<Method> methods) throws Exception {
        int texted = 0;
        boolean isLively = random.nextBoolean();
        for (int call = 0; call < CALLS; call++) {
            if (call == 0 || (texted < 4 && random.nextInt(60) == 0)) {
                texted++;
                call += tellText(run, texted == 1 && random.nextInt(5) != 0 ? texts.right() : texts.any());
            }
            Method m = methods.get(random.nextInt(methods.size()));
            if (List.of("feed", "end", "valley").contains(m.getName()) && random.nextInt(8) != 0) {
                m = methods.get(random.nextInt(methods.size()));
            }
            if (isLively && random.nextInt(3) == 0) m = pick(methods, ACTS[random.nextInt(ACTS.length)]);
            ask(run, m, argumentsFor(m));
        }
    }

    private static Method pick(List<Method> methods, String name) {
        return methods.stream().filter(m -> m.getName().equals(name)).findFirst().orElseThrow();
    }

    private int tellText(int run, String told) throws Exception {
        byte[] text = told.getBytes(StandardCharsets.ISO_8859_1);
        Class<?> n = int.class;
        Method feed = HideReader.class.getMethod("feed", n, n, n, n, n);
        Method end = HideReader.class.getMethod("end", n);
        int calls = 3;
        if (random.nextInt(4) != 0) ask(run, end, new Object[] {0});
        int before = reader.about(10);
        int[] numbers = new int[5];
        for (int at = 0; at < text.length; at += 20) {
            Arrays.fill(numbers, 0x20202020);
            for (int i = 0; i < 20; i++) {
                int b = at + i < text.length ? text[at + i] & 255 : 32;
                numbers[i / 4] = numbers[i / 4] << 8 | b;
            }
            ask(run, feed, new Object[] {numbers[0], numbers[1], numbers[2], numbers[3], numbers[4]});
            calls++;
        }
        ask(run, end, new Object[] {before + text.length});
        ask(run, HideReader.class.getMethod("valley"), new Object[0]);
        ask(run, HideReader.class.getMethod("fault", n), new Object[] {0});
        ask(run, HideReader.class.getMethod("fault", n), new Object[] {1});
        return calls + 2;
    }

    private Object[] argumentsFor(Method m) {
        Class<?>[] types = m.getParameterTypes();
        Object[] out = new Object[types.length];
        for (int i = 0; i < types.length; i++) {
            out[i] = types[i] == boolean.class ? (Object) random.nextBoolean() : (Object) number(m.getName(), i);
        }
        return out;
    }

    private int number(String name, int i) {
        if (random.nextInt(40) == 0) return EDGES[random.nextInt(EDGES.length)];
        boolean isMark = List.of("make", "under", "faces", "norm").contains(name) || (i == 0 && List.of("placed", "nearest").contains(name));
        if (isMark) return mark();
        if (name.equals("feed")) return 0x20202020;
        if (name.equals("end")) return random.nextInt(60);
        if (name.equals("will") || name.equals("law")) return random.nextInt(103) - 1;
        if (name.equals("later")) return random.nextInt(3) == 0 ? 0 : random.nextInt(4);
        if (name.equals("rows") || (i == 1 && List.of("sure", "ask").contains(name))) return random.nextInt(20) - 1;
        if (name.equals("seen") && i == 0) return 1 + random.nextInt(2);
        if (List.of("odds", "image", "back", "king").contains(name) || (i == 1 && List.of("tempt", "nearest").contains(name))) return random.nextInt(7) - 1;
        if (name.equals("about")) return random.nextInt(17) - 1;
        if (name.equals("age") && i == 1 || name.equals("seen")) return random.nextInt(13) - 1;
        return random.nextInt(countFor(name, i) + 1) - (random.nextInt(8) == 0 ? 1 : 0);
    }

    /** How many there are of what an argument numbers. */
    private int countFor(String name, int i) {
        if (name.equals("lies") || name.equals("untell")) return reader.about(name.equals("lies") ? 12 : 8);
        if (i == 2 || (name.equals("placed") && i == 1)) return reader.about(3);
        if (name.equals("iron") || (name.equals("burn") && i == 1)) return reader.about(1);
        if (List.of("brand", "claim", "raid", "shared").contains(name)) return reader.about(0);
        if (i == 1) return name.equals("beast") ? 6 : reader.about(0);
        return reader.about(2);
    }

    private int mark() {
        switch (random.nextInt(4)) {
            case 0: return random.nextInt(4096);
            case 1: return Math.max(0, reader.brand(random.nextInt(8)));
            case 2: return Math.max(0, reader.brand(random.nextInt(8))) | Math.max(0, reader.iron(random.nextInt(6)));
            default: return 1 << random.nextInt(12) | 1 << random.nextInt(12);
        }
    }

    private void ask(int run, Method m, Object[] args) throws Exception {
        Method twin = NaiveReader.class.getDeclaredMethod(m.getName(), m.getParameterTypes());
        String call = m.getName() + Arrays.toString(args);
        Object due = twin.invoke(naive, args);
        Object got;
        try {
            got = m.invoke(reader, args);
        } catch (InvocationTargetException thrown) {
            got = thrown.getCause();
        }
        log.add(call + " = " + got);
        if (!due.equals(got)) {
            log.forEach(System.out::println);
            System.out.println("run " + run + ": " + call + " answered " + got + ", due is " + due);
            System.exit(1);
        }
    }
}
