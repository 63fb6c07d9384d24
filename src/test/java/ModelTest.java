import java.lang.reflect.InvocationTargetException;
import java.lang.reflect.Method;
import java.lang.reflect.Modifier;
import java.util.ArrayList;
import java.util.Arrays;
import java.util.Comparator;
import java.util.List;
import java.util.Random;

/** Long runs of calls, drawn from a fixed seed, on the program and on the model: every answer is the same. */
public final class ModelTest {
    /** What an object answers behind these is free. */
    private static final int CALLS = 512;
    private static final String[] WORDS = {"rod", "copper", "kite", "oak", "cathedral", "poacher", "at", "high", "from", "to",
        "cloud", "charge", "left", "right", "still", "grows", "breaks", ";", ";", "x", "!", "0", "7", "15", "16", "60", "99", "1000"};
    private static final int[] EDGES = {-1, 0, 1, 2, 3, 7, 8, 15, 16, 23, 24, 40, 41, 60, 61, 99, 100, 101, Integer.MAX_VALUE, Integer.MIN_VALUE};
    private static final Due due = new Due();

    private final Random draw;
    private final BoltsByOrder program = new BoltsByOrder();
    private final Model model = new Model();
    private int called = 0;

    private ModelTest(long seed) {
        // Small seeds that stand side by side have nearly the same first draws.
        draw = new Random(seed * 0x9E3779B97F4A7C15L);
    }

    public static void main(String[] args) throws Exception {
        int runs = args.length > 0 ? Integer.parseInt(args[0]) : 60;
        long first = args.length > 1 ? Long.parseLong(args[1]) : 0;
        List<Method> methods = new ArrayList<>();
        for (Method m : BoltsByOrder.class.getDeclaredMethods()) {
            if (Modifier.isPublic(m.getModifiers())) {
                methods.add(m);
            }
        }
        methods.sort(Comparator.comparing(Method::getName));
        for (long seed = first; seed < first + runs; seed++) {
            new ModelTest(seed).run(methods, seed);
        }
        due.end();
    }

    private void run(List<Method> methods, long seed) throws Exception {
        // Some runs go far into the hours, some stay with few rods.
        int far = draw.nextInt(4);
        if (draw.nextInt(4) > 0) {
            for (int rods = draw.nextInt(9); rods > 0; rods--) {
                same(BoltsByOrder.class.getMethod("rod", int.class, int.class), new Object[] {draw.nextInt(6), draw.nextInt(16)}, seed);
            }
        }
        while (called < CALLS) {
            Method m = methods.get(draw.nextInt(methods.size()));
            if (far == 0 && draw.nextInt(3) == 0) {
                m = BoltsByOrder.class.getMethod("hours", int.class);
            }
            if (m.getName().equals("down") && draw.nextInt(3) > 0 || m.getName().equals("undo") && far == 0 && draw.nextInt(9) > 0) {
                continue;
            }
            if (m.getName().equals("plain")) {
                feedText(seed);
            }
            Object[] with = new Object[m.getParameterCount()];
            for (int i = 0; i < with.length; i++) {
                int v = argument(m.getName(), i);
                with[i] = m.getParameterTypes()[i] == long.class ? (Object) wide(v) : (Object) v;
            }
            if (!same(m, with, seed)) {
                return;
            }
        }
    }

    private long wide(int v) {
        return switch (draw.nextInt(6)) {
            case 0 -> draw.nextLong();
            case 1 -> draw.nextInt(70000) - 35000;
            case 2 -> model.now(3);
            default -> v;
        };
    }

    private void feedText(long seed) throws Exception {
        StringBuilder text = new StringBuilder();
        for (int items = draw.nextInt(4) + 1; items > 0; items--) {
            item(text);
            text.append(items > 1 ? blank(";") : "");
        }
        if (draw.nextInt(3) == 0) {
            for (int i = draw.nextInt(6); i > 0; i--) {
                text.append(blank(WORDS[draw.nextInt(WORDS.length)]));
            }
        }
        if (draw.nextInt(4) == 0) {
            text.setCharAt(draw.nextInt(text.length()), (char) draw.nextInt(256));
        }
        if (draw.nextInt(6) == 0) {
            text.setLength(draw.nextInt(text.length()));
        }
        Method feed = BoltsByOrder.class.getMethod("feed", int.class, int.class);
        if (draw.nextInt(4) > 0) {
            same(BoltsByOrder.class.getMethod("wipe"), new Object[0], seed);
        }
        for (int i = 0; i < text.length();) {
            int n = Math.min(draw.nextInt(4) + 1, text.length() - i);
            int bytes = draw.nextInt();
            for (int j = 0; j < n; j++) {
                bytes = bytes << 8 | text.charAt(i + j);
            }
            same(feed, new Object[] {bytes, n}, seed);
            i += n;
        }
    }

    private String blank(String token) {
        return (draw.nextBoolean() ? " " : "") + token + (draw.nextInt(3) == 0 ? "" : " ");
    }

    private void item(StringBuilder text) {
        int sort = draw.nextInt(9);
        if (sort < 5) {
            text.append(WORDS[draw.nextInt(6)]).append(blank(" at")).append(draw.nextInt(16));
            text.append(draw.nextBoolean() ? " high " + draw.nextInt(62) : "");
            text.append(draw.nextBoolean() ? " from " + draw.nextInt(25) + " to " + draw.nextInt(24) : "");
        } else if (sort < 7) {
            text.append("cloud ").append(draw.nextInt(17));
            text.append(draw.nextBoolean() ? " charge " + draw.nextInt(101) : "");
            text.append(draw.nextBoolean() ? " " + WORDS[12 + draw.nextInt(3)] : "");
        } else {
            text.append(sort == 7 ? "grows " + draw.nextInt(52) : "breaks " + (19 + draw.nextInt(82)));
        }
    }

    private int argument(String name, int i) {
        if (draw.nextInt(25) == 0) {
            return EDGES[draw.nextInt(EDGES.length)];
        }
        int rod = draw.nextInt(Math.max(1, model.count(0)));
        return switch (name) {
            case "cloud" -> i == 0 ? draw.nextInt(5) : draw.nextInt(3) == 0 ? draw.nextInt(3) - 1 : draw.nextInt(100);
            case "cloudOf" -> draw.nextInt(5);
            case "rod" -> i == 0 ? draw.nextInt(6) : draw.nextInt(16);
            case "of" -> i == 0 ? rod : draw.nextInt(10);
            case "set" -> i == 0 ? rod : i == 1 ? 1 + draw.nextInt(2) : draw.nextInt(draw.nextBoolean() ? 16 : 61);
            case "pays" -> i == 0 ? rod : draw.nextInt(24);
            case "turn", "as" -> i == 0 ? rod : draw.nextInt(6);
            case "hours" -> draw.nextInt(5) == 0 ? draw.nextInt(10) : 100;
            case "days" -> 1 + draw.nextInt(4);
            case "seed", "feed" -> i == 0 ? draw.nextInt() : draw.nextInt(6);
            case "now" -> draw.nextInt(6);
            case "on" -> i == 0 ? rod : i == 1 ? draw.nextInt(101) : draw.nextInt(2);
            case "next" -> draw.nextInt(4);
            case "struck" -> draw.nextInt(16);
            case "thief", "kind" -> i == 0 ? rod : draw.nextInt(62);
            case "place", "clocks", "covers", "from" -> i == 0 ? rod : draw.nextInt(draw.nextBoolean() ? 102 : 12);
            case "strays" -> draw.nextInt(102);
            case "fork" -> i == 0 ? rod : draw.nextInt(2);
            case "sheet" -> i == 0 ? draw.nextInt(4) : i == 1 ? new int[] {0, 8, 16, 64, 8, 16, 64, 32}[draw.nextInt(8)] : draw.nextInt(42);
            case "write" -> i == 0 ? draw.nextInt(4) : draw.nextInt(30);
            case "copy" -> i == 0 || i == 2 ? draw.nextInt(4) : draw.nextInt(12);
            case "book", "read" -> i == 0 ? draw.nextInt(4) : rod;
            case "lays" -> draw.nextInt(4);
            case "count" -> draw.nextInt(4);
            case "status" -> draw.nextInt(8) - 1;
            default -> rod;
        };
    }

    private boolean same(Method m, Object[] with, long seed) throws Exception {
        if (called == CALLS) {
            return false;
        }
        called++;
        long got = ((Number) m.invoke(program, with)).longValue();
        long want;
        try {
            want = ((Number) Model.class.getMethod(m.getName(), m.getParameterTypes()).invoke(model, with)).longValue();
        } catch (InvocationTargetException e) {
            want = model.found((RuntimeException) e.getCause());
        }
        String call = m.getName() + Arrays.toString(with);
        due.is("run " + seed + ": " + call, got, want);
        return got == want;
    }
}
