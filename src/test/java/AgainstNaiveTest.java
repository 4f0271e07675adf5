import java.lang.reflect.Method;
import java.util.ArrayList;
import java.util.Arrays;
import java.util.Comparator;
import java.util.List;
import java.util.Random;

/** All promises: runs of calls by chance (the same in each run of this test), held against Naive. */
public final class AgainstNaiveTest {
    private static final int RUNS = 400;
    private static final int CALLS = 200;
    private static final String[] WORDS = {"brigade", "seconds", "buckets", "size", "back", "odds", "hand", "pace",
        "spills", "together", "apart", "fire", "heat", "grows", ";", "0", "1", "7", "61", "99999999999999999999",
        "handpace", "x", "-", "A", "\t", "\r", "007", "\u00e9", "\u0000"};

    private final Random random;
    private final Method[] methods;
    private final HandLine x = new HandLine();
    private final Naive y = new Naive();
    private final List<String> log = new ArrayList<>();
    private boolean wrong = false;

    private AgainstNaiveTest(long seed) {
        random = new Random(seed);
        methods = Arrays.stream(HandLine.class.getDeclaredMethods())
                .filter(m -> java.lang.reflect.Modifier.isPublic(m.getModifiers()))
                .sorted(Comparator.comparing(Method::getName)).toArray(Method[]::new);
    }

    public static void main(String[] args) throws Exception {
        int runs = args.length > 0 ? Integer.parseInt(args[0]) : RUNS;
        long first = args.length > 1 ? Long.parseLong(args[1]) : 0;
        long failed = java.util.stream.LongStream.range(first, first + runs).parallel()
                .filter(seed -> !passes(seed)).count();
        System.out.println(failed == 0 ? "all answers are as due" : failed + " runs are not as due");
        if (failed != 0) {
            System.exit(1);
        }
    }

    private static boolean passes(long seed) {
        AgainstNaiveTest test = new AgainstNaiveTest(seed);
        try {
            test.run();
        } catch (ReflectiveOperationException e) {
            test.wrong = true;
            test.log.add(String.valueOf(e.getCause()));
        }
        if (test.wrong) {
            List<String> end = test.log.subList(Math.max(0, test.log.size() - 30), test.log.size());
            System.out.println("seed " + seed + ":\n  " + String.join("\n  ", end));
        }
        return !test.wrong;
    }

    private void run() throws ReflectiveOperationException {
        while (log.size() < CALLS && !wrong) {
            if (random.nextInt(60) == 0 || log.isEmpty()) {
                tell();
            } else if (random.nextInt(15) == 0) {
                see();
            } else {
                Method m = methods[random.nextInt(methods.length)];
                // Without a BRIGADE most answers are alike, so it goes seldom.
                boolean seldom = m.getName().equals("brigade") || m.getName().equals("feed");
                if (!seldom || random.nextInt(6) == 0) {
                    call(m.getName(), arguments(m));
                }
            }
        }
    }

    private void call(String name, Object... arguments) throws ReflectiveOperationException {
        if (wrong) {
            return;
        }
        Class<?>[] types = Arrays.stream(methods).filter(m -> m.getName().equals(name)).findFirst().get()
                .getParameterTypes();
        Object due = Naive.class.getMethod(name, types).invoke(y, arguments);
        log.add(name + Arrays.toString(arguments) + " due " + due);
        Object got = HandLine.class.getMethod(name, types).invoke(x, arguments);
        if (!due.equals(got)) {
            wrong = true;
            log.add("but answered " + got);
        }
    }

    private Object[] arguments(Method m) {
        Object[] all = new Object[m.getParameterCount()];
        for (int i = 0; i < all.length; i++) {
            int v = argument(m.getName());
            all[i] = m.getParameterTypes()[i] == long.class ? (Object) (long) v : (Object) v;
        }
        return all;
    }

    private int argument(String name) {
        int kind = random.nextInt(40);
        if (kind == 0) {
            int[] odd = {Integer.MIN_VALUE, Integer.MAX_VALUE, -1000, 64, 63, 2000000000, 2000000001, 256, 300};
            return odd[random.nextInt(odd.length)];
        }
        if (kind == 1) {
            return -1;
        }
        if (kind < 10) {
            return random.nextInt(62);
        }
        if (name.equals("feed")) {
            return random.nextInt();
        }
        if (name.equals("brings")) {
            return random.nextInt(70);
        }
        if (name.equals("drawn") || name.equals("luck")) {
            return kind < 25 ? random.nextInt(4) : random.nextInt(2000000001);
        }
        if (name.equals("until")) {
            return random.nextInt(300);
        }
        return kind < 25 ? random.nextInt(3) : random.nextInt(10);
    }

    /** A BRIGADE's text, now and then with something wrong in it. */
    private void tell() throws ReflectiveOperationException {
        call("end", 0);
        String text = random.nextInt(40) == 0 ? "" : text();
        if (random.nextInt(4) == 0) {
            text = spoilt(text);
        }
        byte[] bytes = Check.bytes(text);
        bytes = Arrays.copyOf(bytes, Math.min(500, bytes.length));
        int[] n = Check.numbers(bytes);
        for (int i = 0; i < n.length; i += 5) {
            call("feed", n[i], n[i + 1], n[i + 2], n[i + 3], n[i + 4]);
        }
        call("end", bytes.length);
        call("brigade");
        call("fault", 0);
        call("fault", 1);
    }

    private String spoilt(String text) {
        int at = random.nextInt(text.length() + 1);
        String word = WORDS[random.nextInt(WORDS.length)];
        switch (random.nextInt(3)) {
            case 0:
                return text.substring(0, at);
            case 1:
                return text.substring(0, at) + word + text.substring(at);
            default:
                return text.substring(0, at) + " " + word + " " + text.substring(at);
        }
    }

    private String text() {
        int hands = random.nextInt(20) == 0 ? 7 : random.nextInt(7);
        int seconds = random.nextInt(3) == 0 ? 60 : 1 + random.nextInt(30);
        StringBuilder sb = new StringBuilder();
        sb.append("brigade seconds ").append(seconds).append(" buckets ").append(1 + random.nextInt(8));
        sb.append(" size ").append(1 + random.nextInt(30)).append(" back ").append(random.nextInt(21));
        sb.append(" odds ").append(random.nextInt(11)).append(";\n");
        int mostPace = 1 + random.nextInt(6);
        int pairs = random.nextInt(10) == 0 ? 6 : random.nextInt(4);
        for (int i = 0; i < hands; i++) {
            sb.append("hand pace ").append(1 + random.nextInt(mostPace));
            sb.append(" spills ").append(random.nextInt(random.nextBoolean() ? 3 : 10)).append(";");
        }
        for (int i = 0; i < pairs && hands > 1; i++) {
            int a = random.nextInt(hands);
            int b = random.nextInt(30) == 0 ? a : (a + 1 + random.nextInt(hands - 1)) % hands;
            sb.append(random.nextBoolean() ? "together " : "apart ").append(a).append(' ').append(b).append("; ");
        }
        for (int i = random.nextInt(3); i > 0; i--) {
            sb.append("fire heat ").append(1 + random.nextInt(random.nextBoolean() ? 60 : 999)).append(" grows ");
            sb.append(random.nextInt(10)).append(" ;");
        }
        return sb.toString();
    }

    /** A row of what was SEEN, mostly one that some ORDER fits. */
    private void see() throws ReflectiveOperationException {
        int slot = random.nextInt(4);
        int n = random.nextInt(4) * 2 + (random.nextInt(12) == 0 ? 1 : 0);
        call("row", slot, random.nextInt(4), n);
        for (int i = 0; i + 1 < n; i += 2) {
            int second = random.nextInt(Math.max(1, y.count(0)) + (random.nextInt(10) == 0 ? 3 : 0));
            int seen = Math.max(0, y.thrown(second) + (random.nextInt(3) == 0 ? random.nextInt(3) - 1 : 0));
            call("write", slot, i, (long) second);
            call("write", slot, i + 1, random.nextInt(15) == 0 ? random.nextLong() : (long) seen);
        }
        call("fits", slot);
        call("may", slot, random.nextInt(6));
        call("ask", slot);
        call("leaves", slot);
    }
}
