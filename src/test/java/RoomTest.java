import java.lang.management.ManagementFactory;

/** The room of a run: a new object is small, and no call makes anything more. */
public final class RoomTest {
    private static final Check CHECK = new Check();
    private static final com.sun.management.ThreadMXBean BEAN =
            (com.sun.management.ThreadMXBean) ManagementFactory.getThreadMXBean();
    private static HandLine kept;
    private static long sum;

    public static void main(String[] args) {
        // The first one loads the classes too, so the second one is measured.
        kept = new HandLine();
        made();
        long before = made();
        kept = new HandLine();
        long object = made() - before;
        CHECK.due("bytes of a new object, " + object, object < 40_000 ? 1 : 0, 1);
        int[] text = Check.numbers(Check.bytes("brigade seconds 60 buckets 8 size 30 back 3 odds 4;"
                + "hand pace 1 spills 1;".repeat(6) + "apart 0 5;fire heat 99 grows 1;                    "));
        run(text);
        before = made();
        run(text);
        long calls = made() - before;
        CHECK.due("bytes made by calls, " + calls, calls < 2_000 ? 1 : 0, 1);
        System.out.println(object + " bytes for an object, " + calls + " for its calls");
        CHECK.finish();
    }

    private static long made() {
        return BEAN.getThreadAllocatedBytes(Thread.currentThread().getId());
    }

    private static void run(int[] text) {
        HandLine x = kept;
        x.end(0);
        for (int i = 0; i < text.length; i += 5) {
            x.feed(text[i], text[i + 1], text[i + 2], text[i + 3], text[i + 4]);
        }
        x.end(x.count(11) - 20);
        sum += x.brigade() + x.rest(1, 0, 3) + x.paces(2, 4) + x.undo() + x.image(0) + x.back(0);
        sum += x.out() + x.full() + x.gap() + x.ease(0) + x.slow() + x.enough() + x.size() + x.heat() + x.rate(1);
        sum += x.orders() + x.best() + x.place(0) + x.soonest() + x.change() + x.lets() + x.let();
        sum += x.row(0, 0, 60) + x.write(0, 0, 1) + x.paste(0, 0, 0, 1, 59) + x.row(0, 0, 2);
        sum += x.fits(0) + x.may(0, 1) + x.ask(0) + x.leaves(0) + x.brings(63) + x.share(0, 0) + x.rests(0, 1);
        sum += x.chance(7, 3, 0) + x.mean(7, 0) + x.drawn(7, 1) + x.luck(7, 20) + x.anew() + x.fills(7);
        CHECK.due("count(10)", x.count(10), 9);
    }
}
