import java.math.BigInteger;

/** The edges that Terms VII and VIII and promises 38 and 57 to 60 name, each sentence by itself. */
public final class SetsEdgesTest {
    private static final int LEAST = Integer.MIN_VALUE;
    private static final int GREATEST = Integer.MAX_VALUE;
    private static final Check CHECK = new Check();
    private static final String SIX = "brigade seconds 40 buckets 3 size 30 back 2 odds 5;hand pace 1 spills 1;"
            + "hand pace 2 spills 0;hand pace 4 spills 2;hand pace 1 spills 9;hand pace 3 spills 3;"
            + "hand pace 2 spills 1;together 0 5;";

    public static void main(String[] args) {
        noneOfThem();
        allOfThem();
        oneBehindTheOther();
        noSuchSet();
        withoutOne();
        shareIsTheMean();
        shareInLowestTerms();
        shareBelowNothing();
        noSuchShare();
        paceSeven();
        dawdlesOrNot();
        neitherGetsMore();
        restsByGets();
        noSuchTwo();
        noBrigade();
        CHECK.finish();
    }

    private static HandLine two(int seconds, int firstPace, int otherPace) {
        return Check.told("brigade seconds " + seconds + " buckets 8 size 5 back 0 odds 0;hand pace " + firstPace
                + " spills 1;hand pace " + otherPace + " spills 0;");
    }

    private static void noneOfThem() {
        CHECK.due("brings(0)", Check.told(SIX).brings(0), 0);
        CHECK.due("brings(0) of no HANDS", Check.told("brigade seconds 9 buckets 8 size 5 back 0 odds 0;").brings(0),
                0);
        CHECK.due("brings(1) of no HANDS", Check.told("brigade seconds 9 buckets 8 size 5 back 0 odds 0;").brings(1),
                -2);
    }

    private static void allOfThem() {
        HandLine x = Check.told(SIX);
        CHECK.due("brings(63), as the line", x.brings(63), x.water(39));
        CHECK.due("brings(64)", x.brings(64), -2);
        HandLine y = two(9, 2, 3);
        CHECK.due("brings(3), as the line", y.brings(3), y.water(8));
        y.rest(1, 3, 2);
        CHECK.due("brings(3) with a rest, as the line", y.brings(3), y.water(8));
        y.paces(0, 6);
        CHECK.due("brings(3) by a pace, as the line", y.brings(3), y.water(8));
    }

    /** HANDS 0 and 2 stand one behind the other if HAND 1 is not among them. */
    private static void oneBehindTheOther() {
        HandLine x = Check.told("brigade seconds 5 buckets 1 size 9 back 20 odds 0;hand pace 1 spills 1;"
                + "hand pace 6 spills 9;hand pace 3 spills 2;");
        CHECK.dueRow("brings", x::brings, 0, 8, 0, 0, 7, 6, 0, 0, -2);
        x.rest(2, 1, 1);
        // HAND 2 gets it from HAND 0 in 2 and throws it in 5, too late; alone he took it in 0, and throws it in 4.
        CHECK.due("brings(5), rests go with them", x.brings(5), 0);
        CHECK.due("brings(4), rests go with them", x.brings(4), 7);
        x.paces(2, 2);
        CHECK.due("brings(5), paces as now", x.brings(5), 6);
    }

    private static void noSuchSet() {
        HandLine x = two(9, 2, 3);
        for (int set : new int[] {-1, 4, 7, 8, 64, GREATEST, LEAST}) {
            CHECK.due("brings(" + set + ")", x.brings(set), -2);
        }
    }

    private static void withoutOne() {
        HandLine x = Check.told(SIX);
        for (int hand = 0; hand < 6; hand++) {
            CHECK.due("without(" + hand + ")", x.without(hand), x.brings(63 - (1 << hand)));
        }
        for (int hand : new int[] {-1, 6, GREATEST, LEAST}) {
            CHECK.due("without(" + hand + ")", x.without(hand), -2);
        }
        HandLine one = Check.told("brigade seconds 9 buckets 8 size 5 back 0 odds 0;hand pace 1 spills 0;");
        CHECK.due("without(0), nobody is left", one.without(0), 0);
        CHECK.due("without(1)", one.without(1), -2);
    }

    /** All orders in which six come, each as likely. */
    private static void shareIsTheMean() {
        HandLine x = Check.told(SIX);
        x.rest(2, 3, 5);
        int[] brings = new int[64];
        for (int set = 0; set < 64; set++) {
            brings[set] = x.brings(set);
        }
        long[] sums = new long[6];
        come(brings, 0, new int[6], sums);
        for (int hand = 0; hand < 6; hand++) {
            BigInteger above = BigInteger.valueOf(sums[hand]);
            BigInteger common = above.gcd(BigInteger.valueOf(720));
            CHECK.due("share above of " + hand, x.share(hand, 0), above.divide(common).longValue());
            CHECK.due("share below of " + hand, x.share(hand, 1), 720 / common.longValue());
        }
    }

    /** More by each HAND of a set that came in one order; each HAND who is not there yet may come next. */
    private static void come(int[] brings, int set, int[] more, long[] sums) {
        if (set == 63) {
            for (int hand = 0; hand < 6; hand++) {
                sums[hand] += more[hand];
            }
        }
        for (int hand = 0; hand < 6; hand++) {
            int then = set | 1 << hand;
            if (then != set) {
                more[hand] = brings[then] - brings[set];
                come(brings, then, more, sums);
            }
        }
    }

    private static void shareInLowestTerms() {
        HandLine none = two(1, 1, 1);
        CHECK.due("share above, nothing", none.share(0, 0), 0);
        CHECK.due("share below, nothing", none.share(0, 1), 1);
        HandLine one = Check.told("brigade seconds 3 buckets 8 size 9 back 0 odds 0;hand pace 1 spills 1;");
        CHECK.due("share above, all of it", one.share(0, 0), 16);
        CHECK.due("share below, all of it", one.share(0, 1), 1);
        // Alone both throw in 1, 2, together in 2 alone: (8 and 4 less 10) / 2, (10 and 4 less 8) / 2.
        HandLine two = two(3, 1, 1);
        CHECK.dueRow("brings", two::brings, 0, 8, 10, 4, -2);
        CHECK.dueRow("share above", h -> two.share(h, 0), 1, 3, -2);
        CHECK.dueRow("share below", h -> two.share(h, 1), 1, 1, -2);
        HandLine half = two(5, 1, 3);
        CHECK.dueRow("share above", h -> half.share(h, 0), 15, -7, -2);
        CHECK.dueRow("share below", h -> half.share(h, 1), 2, 2, -2);
    }

    private static void shareBelowNothing() {
        // HAND 0 alone throws in 1, 2; HAND 1 and both not ahead of 6.
        HandLine x = two(3, 1, 6);
        CHECK.dueRow("brings", x::brings, 0, 8, 0, 0, -2);
        CHECK.due("share above", x.share(0, 0), 4);
        CHECK.due("share below", x.share(0, 1), 1);
        CHECK.due("share above, below 0", x.share(1, 0), -4);
        CHECK.due("share below, above 0", x.share(1, 1), 1);
    }

    private static void noSuchShare() {
        HandLine x = two(9, 2, 3);
        for (int hand : new int[] {-1, 2, GREATEST, LEAST}) {
            CHECK.due("share(" + hand + ", 0)", x.share(hand, 0), -2);
            CHECK.due("share(" + hand + ", 1)", x.share(hand, 1), -2);
        }
        for (int what : new int[] {-1, 2, GREATEST, LEAST}) {
            CHECK.due("share(0, " + what + ")", x.share(0, what), -2);
        }
    }

    /** A pace of 6 becomes 7, though none such can be told. */
    private static void paceSeven() {
        HandLine x = two(8, 6, 1);
        CHECK.due("gets, thrown in 7", x.gets(1, 0, 0, 0), 2);
        CHECK.due("gets, not ahead of 8", x.gets(1, 0, 0, 1), 0);
        HandLine y = two(9, 6, 1);
        CHECK.due("gets, thrown in 8", y.gets(1, 0, 0, 1), 2);
        HandLine z = two(15, 6, 6);
        CHECK.due("gets, both 7, thrown in 14", z.gets(0, 1, 1, 1), 7);
        HandLine w = two(14, 6, 6);
        CHECK.due("gets, both 7, not ahead of 14", w.gets(0, 1, 1, 1), 5);
        CHECK.due("the pace stays", w.hand(0, 0), 6);
    }

    private static void dawdlesOrNot() {
        // Nothing is thrown: 5 for who dawdles, 0 for who does not.
        HandLine x = two(1, 1, 1);
        CHECK.due("gets(0, 1, 0, 0)", x.gets(0, 1, 0, 0), 0);
        CHECK.due("gets(0, 1, 1, 0)", x.gets(0, 1, 1, 0), 5);
        CHECK.due("gets(0, 1, 0, 1)", x.gets(0, 1, 0, 1), 0);
        CHECK.due("gets(0, 1, 1, 1)", x.gets(0, 1, 1, 1), 5);
        CHECK.due("gets(1, 0, 1, 0)", x.gets(1, 0, 1, 0), 5);
        CHECK.due("rests(0, 1), both dawdle", x.rests(0, 1), 8);
        x.rest(0, 0, 1);
        CHECK.due("rests(0, 1) with a rest", x.rests(0, 1), 8);
        HandLine most = two(60, 1, 1);
        CHECK.due("gets, 58 thrown", most.gets(1, 0, 0, 0), 116);
    }

    private static void neitherGetsMore() {
        // As told 58 are thrown; if one dawdles, 29 or so: who dawdles GETS less then.
        HandLine x = two(60, 1, 1);
        CHECK.due("gets(0, 1, 1, 0)", x.gets(0, 1, 1, 0), 63);
        CHECK.due("gets(1, 0, 1, 0)", x.gets(1, 0, 1, 0), 63);
        CHECK.due("gets(0, 1, 1, 1)", x.gets(0, 1, 1, 1), 61);
        CHECK.due("gets(0, 1, 0, 1)", x.gets(0, 1, 0, 1), 58);
        CHECK.due("rests(0, 1), neither or both", x.rests(0, 1), 9);
        HandLine y = two(60, 1, 3);
        CHECK.due("rests(0, 1), the first one", y.rests(0, 1), 2);
        CHECK.due("rests(1, 0), the other one", y.rests(1, 0), 4);
        // HAND 2 is one too many: the two of three who are asked about alone dawdle.
        HandLine z = Check.told("brigade seconds 60 buckets 8 size 5 back 0 odds 0;hand pace 1 spills 1;"
                + "hand pace 1 spills 0;hand pace 6 spills 0;");
        CHECK.due("rests(0, 1), both are fast", z.rests(0, 1), 8);
        CHECK.due("rests(1, 0)", z.rests(1, 0), 8);
    }

    /** Twice a number is even, and 5 more is odd, so nobody ever GETS as much by the other choice. */
    private static void restsByGets() {
        for (int seconds = 1; seconds <= 20; seconds++) {
            HandLine x = two(seconds, 2, 2);
            int bits = 0;
            for (int i = 0; i < 4; i++) {
                int a = i % 2;
                int b = i / 2;
                boolean atRest = x.gets(0, 1, a, b) >= x.gets(0, 1, 1 - a, b)
                        && x.gets(1, 0, b, a) >= x.gets(1, 0, 1 - b, a);
                bits += atRest ? 1 << i : 0;
            }
            CHECK.due("rests(0, 1) of " + seconds, x.rests(0, 1), bits);
        }
    }

    private static void noSuchTwo() {
        HandLine x = two(9, 2, 3);
        for (int hand : new int[] {-1, 2, 6, GREATEST, LEAST}) {
            CHECK.due("rests(" + hand + ", 0)", x.rests(hand, 0), -2);
            CHECK.due("rests(0, " + hand + ")", x.rests(0, hand), -2);
            CHECK.due("rests of " + hand + " twice", x.rests(hand, hand), -2);
            CHECK.due("gets(" + hand + ", 0, 0, 0)", x.gets(hand, 0, 0, 0), -1000);
            CHECK.due("gets(0, " + hand + ", 0, 0)", x.gets(0, hand, 0, 0), -1000);
        }
        for (int hand : new int[] {0, 1}) {
            CHECK.due("rests of one twice", x.rests(hand, hand), -2);
            CHECK.due("gets of one twice", x.gets(hand, hand, 0, 0), -1000);
        }
        for (int choice : new int[] {-1, 2, GREATEST, LEAST}) {
            CHECK.due("gets(0, 1, " + choice + ", 0)", x.gets(0, 1, choice, 0), -1000);
            CHECK.due("gets(0, 1, 0, " + choice + ")", x.gets(0, 1, 0, choice), -1000);
        }
        HandLine one = Check.told("brigade seconds 9 buckets 8 size 5 back 0 odds 0;hand pace 1 spills 0;");
        CHECK.due("rests(0, 1) of one HAND", one.rests(0, 1), -2);
        CHECK.due("gets(0, 1, 0, 0) of one HAND", one.gets(0, 1, 0, 0), -1000);
    }

    private static void noBrigade() {
        HandLine x = new HandLine();
        CHECK.due("brings(0)", x.brings(0), -2);
        CHECK.due("brings(-1)", x.brings(-1), -2);
        CHECK.due("without(0)", x.without(0), -2);
        CHECK.due("share(0, 0)", x.share(0, 0), -2);
        CHECK.due("rests(0, 1)", x.rests(0, 1), -2);
        CHECK.due("gets(0, 1, 0, 0)", x.gets(0, 1, 0, 0), -1000);
    }
}
