/** Promises 46 to 56: ORDERS, and who stood where by what was SEEN. */
public final class OrdersTest {
    private static final Check CHECK = new Check();
    private static final String HAND = "hand pace 1 spills 1;";

    public static void main(String[] args) {
        numbers();
        otherOrders();
        letGo();
        bestByRests();
        spills();
        seen();
        seenByMany();
        seenWrong();
        nobody();
        nothing();
        CHECK.finish();
    }

    private static HandLine hands(int n, String pairs) {
        return Check.told("brigade seconds 5 buckets 1 size 9 back 20 odds 0;" + HAND.repeat(n) + pairs);
    }

    private static void numbers() {
        int[] all = {1, 1, 2, 6, 24, 120, 720};
        for (int n = 0; n <= 6; n++) {
            CHECK.due("orders() of " + n, hands(n, "").orders(), all[n]);
        }
        CHECK.due("orders() together", hands(3, "together 0 1;").orders(), 4);
        CHECK.due("orders() apart", hands(3, "apart 2 0;").orders(), 2);
        CHECK.due("orders() of both", hands(3, "together 0 1;apart 0 2;").orders(), 2);
        CHECK.due("orders() of neither", hands(3, "together 0 1;apart 0 1;").orders(), 0);
        CHECK.due("orders() of six", hands(6, "together 0 1;together 1 2;together 2 3;together 3 4;together 4 5;")
                .orders(), 2);
        CHECK.due("orders() of a pair of six", hands(6, "together 4 2;").orders(), 240);
    }

    /** Another BRIGADE in one object, and back: its ORDERS are others. */
    private static void otherOrders() {
        HandLine x = hands(3, "");
        CHECK.due("orders()", x.orders(), 6);
        x.image(0);
        Check.feed(x, "brigade seconds 5 buckets 1 size 9 back 20 odds 0;" + HAND.repeat(4) + "together 0 2;");
        CHECK.due("brigade()", x.brigade(), 6);
        CHECK.due("orders() of another", x.orders(), 12);
        CHECK.dueRow("place of another", x::place, 0, 2, 1, 3, -2);
        CHECK.due("back(0)", x.back(0), 0);
        CHECK.due("orders() of the first", x.orders(), 6);
        CHECK.dueRow("place of the first", x::place, 0, 1, 2, -2);
    }

    private static void letGo() {
        CHECK.due("lets()", hands(3, "together 0 1;apart 0 2;").lets(), 0);
        CHECK.due("let()", hands(3, "together 0 1;apart 0 2;").let(), 0);
        HandLine x = hands(4, "together 1 2;together 0 1;together 0 2;together 0 3;");
        CHECK.due("orders()", x.orders(), 0);
        CHECK.due("lets()", x.lets(), 1);
        CHECK.due("let(), the least", x.let(), 2);
        HandLine y = hands(3, "together 0 1;together 1 0;apart 0 1;");
        CHECK.due("lets()", y.lets(), 1);
        CHECK.due("let(), the fewest, not the least", y.let(), 4);
        HandLine z = hands(2, "apart 0 1;together 0 1;");
        CHECK.due("let(), the least of two", z.let(), 1);
        HandLine v = hands(3, "together 0 2;together 2 0;apart 0 2;");
        CHECK.due("let(), the fewest, not the least", v.let(), 4);
        HandLine w = hands(2, "apart 0 1;apart 0 1;apart 0 1;apart 0 1;apart 0 1;");
        CHECK.due("lets() of all", w.lets(), 5);
        CHECK.due("let() of all", w.let(), 31);
        CHECK.due("best() of no ORDER", w.best(), -1);
        CHECK.due("place(0) of no ORDER", w.place(0), -1);
        CHECK.due("place(2) of no ORDER", w.place(2), -2);
        CHECK.due("soonest() of no ORDER", w.soonest(), -1);
    }

    /** Who rests at first takes later, so another one had better stand at the river. */
    private static void bestByRests() {
        HandLine x = Check.told("brigade seconds 3 buckets 1 size 5 back 20 odds 0;hand pace 1 spills 1;"
                + "hand pace 1 spills 0;fire heat 4 grows 0;");
        CHECK.due("best()", x.best(), 4);
        CHECK.due("place(0), the least row", x.place(0), 0);
        CHECK.due("change()", x.change(), -1);
        CHECK.due("rest(0, 0, 1)", x.rest(0, 0, 1), 0);
        CHECK.due("out()", x.out(), -1);
        CHECK.due("best()", x.best(), 4);
        CHECK.dueRow("place", x::place, 1, 0, -2);
        CHECK.due("place(-1)", x.place(-1), -2);
        CHECK.due("soonest()", x.soonest(), 2);
        CHECK.due("change()", x.change(), 1);
        CHECK.due("the order told stays", x.hand(0, 1), 1);
        x.anew();
        x.rest(1, 0, 1);
        CHECK.due("soonest(), by the order told alone", x.soonest(), 2);
        CHECK.due("change()", x.change(), -1);
        HandLine y = hands(4, "together 0 3;apart 0 1;");
        y.rest(0, 0, 1);
        y.rest(1, 0, 1);
        y.rest(2, 0, 1);
        // Only by HAND 3 at the river is a bucket thrown in SECOND 4; PAIRS are aside for a change.
        CHECK.due("thrown(4)", y.thrown(4), 0);
        CHECK.due("change()", y.change(), 3);
        CHECK.due("best()", y.best(), 5);
        CHECK.dueRow("place", y::place, 3, 0, 2, 1, -2);
        CHECK.due("soonest() without fire", y.soonest(), 0);
        y.paces(3, 2);
        CHECK.due("best(), too late", y.best(), 0);
        CHECK.dueRow("place by none better", y::place, 0, 3, 1, 2, -2);
        CHECK.due("change(), too late", y.change(), -1);
        HandLine z = Check.told("brigade seconds 4 buckets 1 size 5 back 20 odds 0;" + HAND.repeat(3));
        z.rest(0, 0, 1);
        CHECK.due("change(), the first of several", z.change(), 1);
        CHECK.dueRow("place", z::place, 1, 0, 2);
        CHECK.due("best()", z.best(), 2);
    }

    private static void spills() {
        HandLine x = Check.told("brigade seconds 9 buckets 8 size 9 back 0 odds 0;hand pace 2 spills 9;"
                + "hand pace 1 spills 1;fire heat 1 grows 0;");
        CHECK.due("best() without water", x.best(), 0);
        CHECK.dueRow("place without water", x::place, 0, 1);
        CHECK.due("soonest() without water", x.soonest(), -1);
    }

    private static void write(HandLine x, int slot, int width, long... numbers) {
        x.row(slot, width, numbers.length);
        for (int i = 0; i < numbers.length; i++) {
            x.write(slot, i, numbers[i]);
        }
    }

    /** As told thrown in 3, by the other ORDER in 2. */
    private static void seen() {
        HandLine x = hands(2, "");
        x.rest(0, 0, 1);
        write(x, 0, 0);
        CHECK.due("fits(0) of nothing seen", x.fits(0), 2);
        CHECK.due("may(0, 0)", x.may(0, 0), 3);
        CHECK.due("ask(0)", x.ask(0), 2);
        CHECK.due("leaves(0)", x.leaves(0), 1);
        write(x, 1, 1, 2, 1);
        CHECK.due("fits(1)", x.fits(1), 1);
        CHECK.due("may(0, 0)", x.may(0, 0), 3);
        CHECK.due("may(1, 0)", x.may(1, 0), 2);
        CHECK.due("may(0, 1)", x.may(0, 1), 3);
        CHECK.due("may(1, 1)", x.may(1, 1), 1);
        CHECK.due("ask(0)", x.ask(0), 2);
        CHECK.due("ask(1)", x.ask(1), -1);
        CHECK.due("leaves(0)", x.leaves(0), 1);
        CHECK.due("leaves(1)", x.leaves(1), 1);
        write(x, 2, 2, 2, 0, 4, 1);
        CHECK.due("fits(2)", x.fits(2), 1);
        CHECK.due("may(2, 0)", x.may(2, 0), 1);
        write(x, 3, 3, 4, 1, 1, 0);
        CHECK.due("fits(3)", x.fits(3), 2);
        write(x, 3, 3, 4, 2);
        CHECK.due("fits(3) of none", x.fits(3), 0);
        CHECK.due("may(3, 0) of none", x.may(3, 0), 0);
        CHECK.due("ask(3) of none", x.ask(3), -1);
        CHECK.due("leaves(3) of none", x.leaves(3), 0);
        write(x, 3, 0, 256 + 2, 256 + 1);
        CHECK.due("fits(3), cut to its WIDTH", x.fits(3), 1);
        write(x, 3, 3, 4, 99);
        CHECK.due("fits(3) of 99", x.fits(3), 0);
    }

    /** HAND 0 rests in SECOND 0, HAND 1 in 0 and 1: who is at the river tells when a bucket is thrown. */
    private static void seenByMany() {
        HandLine x = Check.told("brigade seconds 8 buckets 1 size 3 back 20 odds 0;" + HAND.repeat(4)
                + "together 2 3;");
        x.rest(0, 0, 1);
        x.rest(1, 0, 2);
        write(x, 0, 0);
        CHECK.due("orders()", x.orders(), 12);
        CHECK.due("fits(0)", x.fits(0), 12);
        // HAND 2 or 3 at the river: thrown in 4, by four ORDERS; HAND 0: in 5, by four; HAND 1: in 6, by four.
        write(x, 0, 0, 4, 1);
        CHECK.due("fits(0) of 4", x.fits(0), 4);
        write(x, 0, 0, 4, 0, 5, 1);
        CHECK.due("fits(0) of 5", x.fits(0), 4);
        write(x, 0, 0, 5, 0, 6, 1);
        CHECK.due("fits(0) of 6", x.fits(0), 4);
        write(x, 0, 0);
        CHECK.due("ask(0), the first of several", x.ask(0), 4);
        write(x, 1, 0, 4, 1);
        CHECK.due("fits(1)", x.fits(1), 4);
        CHECK.due("leaves(0)", x.leaves(0), 8);
        CHECK.due("leaves(1)", x.leaves(1), 4);
        CHECK.due("ask(0)", x.ask(0), 4);
        CHECK.due("ask(1)", x.ask(1), -1);
        write(x, 0, 0, 4, 0);
        CHECK.due("ask(0)", x.ask(0), 5);
        CHECK.due("leaves(0)", x.leaves(0), 4);
        CHECK.due("may(0, 2)", x.may(0, 2), 14);
        CHECK.due("may(0, 0)", x.may(0, 0), 11);
    }

    private static void seenWrong() {
        HandLine x = hands(2, "");
        for (int slot : new int[] {-1, 4}) {
            CHECK.due("fits", x.fits(slot), -2);
            CHECK.due("may", x.may(slot, 0), -2);
            CHECK.due("ask", x.ask(slot), -2);
            CHECK.due("leaves", x.leaves(slot), -2);
        }
        CHECK.due("fits(0) of nothing", x.fits(0), -6);
        CHECK.due("may(0, 0) of nothing", x.may(0, 0), -6);
        CHECK.due("ask(0) of nothing", x.ask(0), -6);
        CHECK.due("leaves(0) of nothing", x.leaves(0), -6);
        CHECK.due("may(0, 2), no such HAND ahead", x.may(0, 2), -2);
        CHECK.due("may(0, -1), no such HAND ahead", x.may(0, -1), -2);
        long[][] wrong = {{0}, {0, 0, 0}, {5, 0}, {-1, 0}, {0, 100}, {0, -1}, {0, 0, 5, 0}, {0, 0, 0, 100},
            {1L << 32, 0}, {0, 1L << 40}};
        for (long[] numbers : wrong) {
            write(x, 0, 3, numbers);
            CHECK.due("fits", x.fits(0), -2);
            CHECK.due("may", x.may(0, 0), -2);
            CHECK.due("ask", x.ask(0), -2);
            CHECK.due("leaves", x.leaves(0), -2);
        }
        write(x, 0, 0, 200, 0);
        CHECK.due("fits(0) of 200", x.fits(0), -2);
        write(x, 0, 0, 4, 0);
        CHECK.due("may(0, 2)", x.may(0, 2), -2);
    }

    private static void nobody() {
        HandLine x = hands(0, "fire heat 1 grows 0;");
        CHECK.due("best()", x.best(), 0);
        CHECK.due("place(0)", x.place(0), -2);
        CHECK.due("soonest()", x.soonest(), -1);
        CHECK.due("change()", x.change(), -1);
        CHECK.due("lets()", x.lets(), 0);
        CHECK.due("let()", x.let(), 0);
        write(x, 0, 0, 0, 0);
        CHECK.due("fits(0)", x.fits(0), 1);
        CHECK.due("ask(0)", x.ask(0), -1);
        CHECK.due("leaves(0)", x.leaves(0), 1);
        CHECK.due("soonest() without fire", hands(0, "").soonest(), 0);
    }

    private static void nothing() {
        HandLine x = new HandLine();
        CHECK.due("orders()", x.orders(), -2);
        CHECK.due("best()", x.best(), -2);
        CHECK.due("place(0)", x.place(0), -2);
        CHECK.due("soonest()", x.soonest(), -2);
        CHECK.due("change()", x.change(), -2);
        CHECK.due("lets()", x.lets(), -2);
        CHECK.due("let()", x.let(), -2);
        CHECK.due("fits(0), -2 ahead of -6", x.fits(0), -2);
        CHECK.due("may(0, 0), -2 ahead of -6", x.may(0, 0), -2);
        CHECK.due("ask(0), -2 ahead of -6", x.ask(0), -2);
        CHECK.due("leaves(0), -2 ahead of -6", x.leaves(0), -2);
    }
}
