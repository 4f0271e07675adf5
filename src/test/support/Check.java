import java.nio.charset.StandardCharsets;

/** What the tests share: feeding a text, and counting the answers that are not as due. */
public final class Check {
    private int wrong = 0;

    public void due(String call, long got, long want) {
        if (got != want) {
            wrong++;
            System.out.println(call + " answered " + got + ", due is " + want);
        }
    }

    /** A row of answers, one for each argument from 0 on. */
    public void dueRow(String call, java.util.function.IntToLongFunction asked, long... want) {
        for (int i = 0; i < want.length; i++) {
            due(call + " of " + i, asked.applyAsLong(i), want[i]);
        }
    }

    public void finish() {
        System.out.println(wrong == 0 ? "all answers are as due" : wrong + " answers are not as due");
        if (wrong != 0) {
            System.exit(1);
        }
    }

    /** The numbers that feed() takes for a text, five to a call; the last ones are filled up with 0. */
    public static int[] numbers(byte[] bytes) {
        int[] all = new int[(bytes.length + 19) / 20 * 5];
        for (int i = 0; i < bytes.length; i++) {
            all[i / 4] |= (bytes[i] & 255) << 24 - i % 4 * 8;
        }
        return all;
    }

    public static byte[] bytes(String text) {
        return text.getBytes(StandardCharsets.ISO_8859_1);
    }

    /** Puts a text on the empty TAPE, and cuts what was filled up. */
    public static void feed(HandLine x, String text) {
        byte[] bytes = bytes(text);
        int[] n = numbers(bytes);
        for (int i = 0; i < n.length; i += 5) {
            x.feed(n[i], n[i + 1], n[i + 2], n[i + 3], n[i + 4]);
        }
        x.end(bytes.length);
    }

    /** An object that was used for a longer line ahead, of which nothing may be left. */
    public static HandLine told(String text) {
        HandLine x = new HandLine();
        feed(x, "brigade seconds 60 buckets 8 size 30 back 0 odds 5;" + "hand pace 1 spills 0;".repeat(6)
                + "together 0 1;apart 1 2;fire heat 999 grows 9;");
        x.brigade();
        x.rest(1, 0, 9);
        x.paces(0, 2);
        x.best();
        x.settles();
        x.share(0, 0);
        feed(x, text);
        int lines = x.brigade();
        if (lines < 0) {
            throw new IllegalStateException("fault " + x.fault(0) + " at " + x.fault(1) + " of " + text);
        }
        return x;
    }
}
