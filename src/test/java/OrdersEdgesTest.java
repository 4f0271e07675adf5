/** The edges that Terms V and VI and promises 46 to 56 name, each sentence by itself. */
public final class OrdersEdgesTest {
    private static final int LEAST = Integer.MIN_VALUE;
    private static final int GREATEST = Integer.MAX_VALUE;
    private static final String HAND = "hand pace 1 spills 1;";
    private static final Check CHECK = new Check();

    public static void main(String[] args) {
        numberOfOrders();
        noOrder();
        noHands();
        noBrigade();
        bestOfOrders();
        leastRow();
        placeOfSix();
        soonestOfOrders();
        restsGoWithHands();
        changeOfTheFirst();
        changeOfTheLast();
        changeIfMore();
        changeOfAllTheyHave();
        letFewest();
        fitsOfRows();
        fitsOfBounds();
        fitsRefused();
        mayOfPlaces();
        askIfFewer();
        askFirstOfSeveral();
        CHECK.finish();
    }

    /** One bucket that never comes back: thrown in the SECOND of all paces together. */
    private static HandLine hands(int n, String more) {
        return Check.told("brigade seconds " + (n + 1) + " buckets 1 size 9 back 20 odds 0;" + HAND.repeat(n) + more);
    }

    private static void numberOfOrders() {
        int[] all = {1, 1, 2, 6, 24, 120, 720};
        for (int n = 0; n <= 6; n++) {
            CHECK.due("orders() of " + n, hands(n, "").orders(), all[n]);
        }
        CHECK.due("orders() of two together", hands(2, "together 0 1;").orders(), 2);
        CHECK.due("orders() of two apart", hands(2, "apart 0 1;").orders(), 0);
        CHECK.due("orders() of six, five together", hands(6, "together 0 1;together 1 2;together 2 3;"
                + "together 3 4;together 4 5;").orders(), 2);
        CHECK.due("orders() of six, together the ends", hands(6, "together 0 5;").orders(), 240);
        CHECK.due("orders() of six, apart the ends", hands(6, "apart 5 0;").orders(), 480);
        CHECK.due("orders() of one PAIR told twice", hands(3, "apart 0 1;apart 1 0;").orders(), 2);
    }

    private static void noOrder() {
        HandLine x = hands(2, "apart 0 1;fire heat 1 grows 0;");
        CHECK.due("orders()", x.orders(), 0);
        CHECK.due("best()", x.best(), -1);
        CHECK.dueRow("place", x::place, -1, -1, -2);
        CHECK.due("place(-1)", x.place(-1), -2);
        CHECK.due("soonest()", x.soonest(), -1);
        CHECK.due("soonest() without fire", hands(2, "apart 0 1;").soonest(), -1);
        CHECK.due("change(), PAIRS aside", x.change(), -1);
        put(x, 0, 0);
        CHECK.due("fits(0)", x.fits(0), 0);
        CHECK.due("may(0, 0)", x.may(0, 0), 0);
        CHECK.due("ask(0)", x.ask(0), -1);
        CHECK.due("leaves(0)", x.leaves(0), 0);
    }

    private static void noHands() {
        HandLine x = hands(0, "");
        CHECK.due("orders(), the row of none", x.orders(), 1);
        CHECK.due("best()", x.best(), 0);
        CHECK.due("place(0)", x.place(0), -2);
        CHECK.due("soonest()", x.soonest(), 0);
        CHECK.due("change()", x.change(), -1);
        CHECK.due("lets()", x.lets(), 0);
        CHECK.due("let()", x.let(), 0);
        put(x, 0, 0, 0, 0);
        CHECK.due("fits(0)", x.fits(0), 1);
        CHECK.due("may(0, 0)", x.may(0, 0), -2);
        CHECK.due("ask(0)", x.ask(0), -1);
        CHECK.due("leaves(0)", x.leaves(0), 1);
        x.write(0, 1, 1);
        CHECK.due("fits(0)", x.fits(0), 0);
    }

    private static void noBrigade() {
        HandLine x = new HandLine();
        put(x, 0, 0);
        CHECK.due("orders()", x.orders(), -2);
        CHECK.due("best()", x.best(), -2);
        CHECK.due("place(0)", x.place(0), -2);
        CHECK.due("soonest()", x.soonest(), -2);
        CHECK.due("change()", x.change(), -2);
        CHECK.due("lets()", x.lets(), -2);
        CHECK.due("let()", x.let(), -2);
        for (int slot : new int[] {0, 1}) {
            CHECK.due("fits(" + slot + ")", x.fits(slot), -2);
            CHECK.due("may(" + slot + ", 0)", x.may(slot, 0), -2);
            CHECK.due("ask(" + slot + ")", x.ask(slot), -2);
            CHECK.due("leaves(" + slot + ")", x.leaves(slot), -2);
        }
    }

    /** Who rests in SECOND 0 takes too late at the river: nothing is thrown, though it is by the other ORDER. */
    private static void bestOfOrders() {
        HandLine x = hands(2, "");
        CHECK.due("best(), by both", x.best(), 7);
        x.rest(0, 0, 1);
        CHECK.due("water(2)", x.water(2), 0);
        CHECK.due("best(), by the other", x.best(), 7);
        x.rest(1, 0, 1);
        CHECK.due("best(), by neither", x.best(), 0);
        CHECK.dueRow("place, the least row", x::place, 0, 1, -2);
        HandLine kept = hands(3, "together 0 1;together 1 2;");
        kept.rest(0, 0, 1);
        kept.rest(2, 0, 1);
        // Only HAND 1 could take in 0, but he must stand between them.
        CHECK.due("best() that keeps the PAIRS", kept.best(), 0);
        CHECK.due("change(), PAIRS aside", kept.change(), 1);
    }

    private static void leastRow() {
        HandLine x = hands(3, "");
        CHECK.dueRow("place, all alike", x::place, 0, 1, 2, -2);
        x.rest(0, 0, 1);
        CHECK.dueRow("place, the least of four", x::place, 1, 0, 2, -2);
        x.rest(1, 0, 1);
        CHECK.dueRow("place, the least of two", x::place, 2, 0, 1, -2);
        CHECK.dueRow("place, the least that keeps", hands(3, "apart 0 1;")::place, 0, 2, 1, -2);
        CHECK.dueRow("place, the least that keeps", hands(3, "together 0 2;")::place, 0, 2, 1, -2);
    }

    private static void placeOfSix() {
        HandLine x = hands(6, "together 0 5;together 5 1;together 1 4;together 4 2;together 2 3;");
        CHECK.due("orders()", x.orders(), 2);
        CHECK.dueRow("place", x::place, 0, 5, 1, 4, 2, 3, -2);
        for (int i : new int[] {-1, 6, GREATEST, LEAST}) {
            CHECK.due("place(" + i + ")", x.place(i), -2);
        }
        x.rest(0, 0, 1);
        CHECK.dueRow("place, the other way", x::place, 3, 2, 4, 1, 5, 0, -2);
    }

    private static void soonestOfOrders() {
        String line = "brigade seconds 9 buckets 1 size 9 back 20 odds 0;" + HAND + HAND;
        HandLine x = Check.told(line + "fire heat 7 grows 0;");
        CHECK.due("soonest(), by both", x.soonest(), 2);
        x.rest(0, 0, 1);
        CHECK.due("out()", x.out(), 3);
        CHECK.due("soonest(), by the other", x.soonest(), 2);
        CHECK.due("soonest(), by none", Check.told(line + "fire heat 8 grows 0;").soonest(), -1);
        CHECK.due("soonest(), without fire", Check.told(line).soonest(), 0);
        HandLine late = hands(2, "fire heat 7 grows 0;");
        CHECK.due("soonest(), in the last SECOND", late.soonest(), 2);
        late.paces(0, 2);
        CHECK.due("soonest(), too late", late.soonest(), -1);
    }

    private static void restsGoWithHands() {
        HandLine x = hands(2, "");
        x.rest(1, 0, 1);
        CHECK.due("thrown(2), as told", x.thrown(2), 1);
        CHECK.dueRow("place, as told", x::place, 0, 1, -2);
        put(x, 0, 0, 2, 0);
        // By the other ORDER HAND 1 is at the river, and rests.
        CHECK.due("fits(0)", x.fits(0), 1);
        CHECK.due("may(0, 1)", x.may(0, 1), 1);
    }

    /** All but HAND 5 rest in SECOND 0: he alone may stand at the river. */
    private static void changeOfTheFirst() {
        HandLine x = hands(6, "");
        CHECK.due("change(), as good as it is", x.change(), -1);
        for (int hand = 0; hand < 5; hand++) {
            x.rest(hand, 0, 1);
        }
        CHECK.due("change() of 0 and 5", x.change(), 5);
        CHECK.due("best()", x.best(), 3);
        CHECK.dueRow("place", x::place, 5, 0, 1, 2, 3, 4, -2);
        x.rest(5, 0, 1);
        CHECK.due("change(), of no use", x.change(), -1);
    }

    /**
     * A bucket is at PLACE i at the end of SECOND i. HAND 4 rests in 4, so he must not stand at PLACES 3 and 4; HANDS
     * 0 to 2 rest in 5, so none of them may stand at 4: HAND 5 must.
     */
    private static void changeOfTheLast() {
        HandLine x = hands(6, "");
        x.rest(4, 4, 1);
        CHECK.due("change(), the first of four", x.change(), 4);
        for (int hand = 0; hand < 3; hand++) {
            x.rest(hand, 5, 1);
        }
        CHECK.due("thrown(6)", x.thrown(6), 0);
        CHECK.due("change() of 4 and 5", x.change(), 45);
        CHECK.due("the line stays", x.thrown(6), 0);
    }

    private static void changeIfMore() {
        HandLine one = hands(1, "");
        CHECK.due("change() of one HAND", one.change(), -1);
        HandLine x = Check.told("brigade seconds 5 buckets 8 size 9 back 0 odds 0;" + HAND + HAND + HAND);
        CHECK.due("change(), as much", x.change(), -1);
        x.rest(0, 0, 1);
        CHECK.due("change(), the first of two", x.change(), 1);
        x.rest(1, 0, 1);
        CHECK.due("change(), the one of use", x.change(), 2);
    }

    /** Two who change PLACES take their paces, spills and rests with them, and each keeps his own. */
    private static void changeOfAllTheyHave() {
        // Thrown in 4, 7, .. in either order, but more often if both had the pace of the faster one.
        HandLine paces = Check.told("brigade seconds 20 buckets 8 size 9 back 0 odds 0;hand pace 3 spills 0;"
                + "hand pace 1 spills 0;");
        CHECK.due("change() of paces", paces.change(), -1);
        HandLine other = Check.told("brigade seconds 20 buckets 8 size 9 back 0 odds 0;hand pace 1 spills 0;"
                + "hand pace 3 spills 0;");
        CHECK.due("change() of paces", other.change(), -1);
        // Nothing is left in the bucket in either order, but would be if both spilt as little as one of them.
        HandLine spills = Check.told("brigade seconds 3 buckets 8 size 9 back 0 odds 0;hand pace 1 spills 1;"
                + "hand pace 1 spills 8;");
        spills.rest(0, 0, 1);
        CHECK.due("change() of spills", spills.change(), -1);
        HandLine more = Check.told("brigade seconds 3 buckets 8 size 9 back 0 odds 0;hand pace 1 spills 8;"
                + "hand pace 1 spills 1;");
        more.rest(0, 0, 1);
        CHECK.due("change() of spills", more.change(), -1);
        // Both rest, one in SECOND 0, one in 1: nobody may take or give in time in either order.
        HandLine rests = hands(2, "");
        rests.rest(0, 0, 1);
        rests.rest(1, 1, 1);
        CHECK.due("change() of rests", rests.change(), -1);
        HandLine rest = hands(2, "");
        rest.rest(0, 1, 1);
        rest.rest(1, 0, 1);
        CHECK.due("change() of rests", rest.change(), -1);
    }

    private static void letFewest() {
        CHECK.due("lets() of none", hands(2, "").lets(), 0);
        CHECK.due("let() of none", hands(2, "").let(), 0);
        CHECK.due("lets(), one", hands(2, "apart 0 1;").lets(), 1);
        CHECK.due("let(), one", hands(2, "apart 0 1;").let(), 1);
        CHECK.due("lets(), all five", hands(2, "apart 0 1;".repeat(5)).lets(), 5);
        CHECK.due("let(), all five", hands(2, "apart 0 1;".repeat(5)).let(), 31);
        HandLine last = hands(2, "together 0 1;".repeat(4) + "apart 0 1;");
        CHECK.due("lets(), the last one", last.lets(), 1);
        CHECK.due("let(), the last one", last.let(), 16);
        HandLine two = hands(2, "together 0 1;apart 0 1;together 0 1;apart 0 1;together 0 1;");
        CHECK.due("lets(), two", two.lets(), 2);
        CHECK.due("let(), two", two.let(), 10);
        // By three together round in a ring one must go: the least is the first.
        HandLine ring = hands(3, "together 0 1;together 1 2;together 2 0;");
        CHECK.due("lets() of a ring", ring.lets(), 1);
        CHECK.due("let() of a ring, the least", ring.let(), 1);
        // One HAND has two neighbours at most.
        HandLine star = hands(6, "together 0 1;together 0 2;together 0 3;together 0 4;together 0 5;");
        CHECK.due("lets() of a star", star.lets(), 3);
        CHECK.due("let() of a star, the least", star.let(), 7);
    }

    private static void put(HandLine x, int slot, int width, long... numbers) {
        x.row(slot, width, numbers.length);
        for (int i = 0; i < numbers.length; i++) {
            x.write(slot, i, numbers[i]);
        }
    }

    private static void fitsOfRows() {
        HandLine x = hands(3, "");
        x.rest(0, 0, 1);
        x.rest(1, 0, 1);
        // HAND 2 at the river, by two ORDERS: thrown in 3; by the four others not.
        put(x, 0, 0);
        CHECK.due("fits(0) of nothing seen", x.fits(0), 6);
        put(x, 0, 0, 3, 1);
        CHECK.due("fits(0) of one", x.fits(0), 2);
        put(x, 0, 0, 3, 0);
        CHECK.due("fits(0) of the others", x.fits(0), 4);
        put(x, 0, 0, 2, 1);
        CHECK.due("fits(0), too early", x.fits(0), 0);
        put(x, 0, 0, 3, 1, 3, 0);
        CHECK.due("fits(0), one against the other", x.fits(0), 0);
        put(x, 0, 0, 3, 1, 3, 1, 0, 0);
        CHECK.due("fits(0), told twice", x.fits(0), 2);
        long[] many = new long[60];
        many[58] = 3;
        many[59] = 1;
        put(x, 3, 3, many);
        CHECK.due("fits(3) of 60 numbers, the last of them", x.fits(3), 2);
        x.write(3, 57, 1);
        CHECK.due("fits(3) of 60 numbers, one wrong", x.fits(3), 0);
    }

    private static void fitsOfBounds() {
        HandLine x = hands(2, "");
        long[][] such = {{0, 0}, {2, 0}, {0, 99}, {2, 99}};
        for (long[] numbers : such) {
            put(x, 0, 3, numbers);
            CHECK.due("fits(0) of such", x.fits(0), numbers[1] == 0 && numbers[0] == 0 ? 2 : 0);
        }
        long[][] none = {{3, 0}, {-1, 0}, {0, 100}, {0, -1}, {60, 0}, {Long.MIN_VALUE, 0}, {Long.MAX_VALUE, 0},
            {0, Long.MIN_VALUE}, {0, Long.MAX_VALUE}, {1L << 32, 0}, {0, 1L << 32}};
        for (long[] numbers : none) {
            put(x, 0, 3, numbers);
            CHECK.due("fits(0) of none such", x.fits(0), -2);
            CHECK.due("may(0, 0) of none such", x.may(0, 0), -2);
            CHECK.due("ask(0) of none such", x.ask(0), -2);
            CHECK.due("leaves(0) of none such", x.leaves(0), -2);
            put(x, 0, 3, 0, 0, numbers[0], numbers[1]);
            CHECK.due("fits(0), the last of them none such", x.fits(0), -2);
            put(x, 0, 3, numbers[0], numbers[1], 0, 99);
            CHECK.due("fits(0), none such ahead of what does not fit", x.fits(0), -2);
        }
        put(x, 0, 3, 0, 99, 0, 0);
        CHECK.due("fits(0) of 99, which is no SECOND", x.fits(0), 0);
        HandLine sixty = Check.told("brigade seconds 60 buckets 8 size 9 back 0 odds 0;" + HAND);
        put(sixty, 0, 0, 59, 59);
        CHECK.due("fits(0) of SECOND 59", sixty.fits(0), 1);
        put(sixty, 0, 0, 60, 59);
        CHECK.due("fits(0) of SECOND 60", sixty.fits(0), -2);
    }

    private static void fitsRefused() {
        HandLine x = hands(2, "");
        for (int n : new int[] {1, 3, 59}) {
            x.row(0, 0, n);
            CHECK.due("fits(0), not two each", x.fits(0), -2);
            CHECK.due("may(0, 0), not two each", x.may(0, 0), -2);
            CHECK.due("ask(0), not two each", x.ask(0), -2);
            CHECK.due("leaves(0), not two each", x.leaves(0), -2);
        }
        for (int slot : new int[] {-1, 4, GREATEST, LEAST}) {
            CHECK.due("fits(" + slot + ")", x.fits(slot), -2);
            CHECK.due("may(" + slot + ", 0)", x.may(slot, 0), -2);
            CHECK.due("ask(" + slot + ")", x.ask(slot), -2);
            CHECK.due("leaves(" + slot + ")", x.leaves(slot), -2);
        }
        for (int slot = 1; slot < 4; slot++) {
            CHECK.due("fits(" + slot + ") of nothing", x.fits(slot), -6);
            CHECK.due("may(" + slot + ", 0) of nothing", x.may(slot, 0), -6);
            CHECK.due("may(" + slot + ", 2), -2 ahead of -6", x.may(slot, 2), -2);
            CHECK.due("ask(" + slot + ") of nothing", x.ask(slot), -6);
            CHECK.due("leaves(" + slot + ") of nothing", x.leaves(slot), -6);
            put(x, slot, slot);
            CHECK.due("fits(" + slot + ") of a row of 0", x.fits(slot), 2);
        }
        for (int hand : new int[] {-1, 2, GREATEST, LEAST}) {
            CHECK.due("may(1, " + hand + ")", x.may(1, hand), -2);
        }
    }

    private static void mayOfPlaces() {
        HandLine x = hands(6, "");
        put(x, 0, 0);
        for (int hand = 0; hand < 6; hand++) {
            CHECK.due("may(0, " + hand + "), at all PLACES", x.may(0, hand), 63);
        }
        for (int hand = 0; hand < 5; hand++) {
            x.rest(hand, 0, 1);
        }
        put(x, 0, 0, 6, 1);
        CHECK.due("fits(0), HAND 5 at the river", x.fits(0), 120);
        CHECK.due("may(0, 5), the first PLACE", x.may(0, 5), 1);
        CHECK.due("may(0, 0), all others", x.may(0, 0), 62);
        x.anew();
        // Who rests in 6, when it is to be thrown, must not stand at PLACE 5.
        x.rest(0, 6, 1);
        put(x, 0, 0, 6, 0);
        CHECK.due("may(0, 0), the last PLACE", x.may(0, 0), 32);
        put(x, 0, 0, 6, 2);
        CHECK.due("may(0, 0), at none", x.may(0, 0), 0);
    }

    private static void askIfFewer() {
        HandLine x = hands(2, "");
        put(x, 0, 0);
        CHECK.due("ask(0), all alike", x.ask(0), -1);
        CHECK.due("leaves(0), as now", x.leaves(0), 2);
        x.rest(0, 0, 1);
        CHECK.due("ask(0), the last SECOND", x.ask(0), 2);
        CHECK.due("leaves(0)", x.leaves(0), 1);
        put(x, 0, 0, 2, 1);
        CHECK.due("ask(0) of one", x.ask(0), -1);
        CHECK.due("leaves(0) of one", x.leaves(0), 1);
        put(x, 0, 0, 2, 5);
        CHECK.due("ask(0) of none", x.ask(0), -1);
        CHECK.due("leaves(0) of none", x.leaves(0), 0);
    }

    private static void askFirstOfSeveral() {
        HandLine two = Check.told("brigade seconds 6 buckets 8 size 9 back 0 odds 0;" + HAND + HAND);
        two.rest(0, 0, 1);
        put(two, 0, 0);
        // Thrown in 3, 4, 5 as told, by the other ORDER in 2, too: any SECOND from 2 on would do.
        CHECK.due("ask(0), the first of four", two.ask(0), 2);
        CHECK.due("leaves(0)", two.leaves(0), 1);
        HandLine x = Check.told("brigade seconds 6 buckets 1 size 9 back 20 odds 0;" + HAND + HAND + HAND);
        x.rest(0, 0, 2);
        x.rest(1, 0, 1);
        put(x, 0, 0);
        // Thrown in 3 by 2 1 0 alone; in 4 by 2 0 1 (HAND 0 rests in 1 still), 1 0 2, 1 2 0; in 5 by 0 1 2, 0 2 1.
        CHECK.due("fits(0)", x.fits(0), 6);
        CHECK.due("ask(0), not the first that leaves fewer", x.ask(0), 4);
        CHECK.due("leaves(0)", x.leaves(0), 4);
        put(x, 0, 0, 3, 0);
        CHECK.due("ask(0) of five", x.ask(0), 4);
        CHECK.due("leaves(0) of five", x.leaves(0), 3);
        put(x, 0, 0, 4, 1);
        CHECK.due("ask(0) of four", x.ask(0), 3);
        CHECK.due("leaves(0) of four", x.leaves(0), 3);
    }
}
