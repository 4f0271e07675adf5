/** The edges that Term IV and promises 36, 37 and 39 to 45 name, each sentence by itself. */
public final class OtherwiseEdgesTest {
    private static final Check CHECK = new Check();

    public static void main(String[] args) {
        withBuckets();
        withActs();
        easeToSix();
        easeAsNow();
        slowIfMore();
        enoughBuckets();
        leastSize();
        greatestHeat();
        roundOfOneBucket();
        rateOfAnyBuckets();
        roundOfReadyOnes();
        roundWithoutRestsAndSlips();
        roundBeyondSixty();
        whatIsToldStays();
        noHands();
        CHECK.finish();
    }

    private static String first(int seconds, int buckets, int size, int back) {
        return "brigade seconds " + seconds + " buckets " + buckets + " size " + size + " back " + back
                + " odds 0;";
    }

    private static String hand(int pace, int spills) {
        return "hand pace " + pace + " spills " + spills + ";";
    }

    private static String fire(int heat, int grows) {
        return "fire heat " + heat + " grows " + grows + ";";
    }

    /** Pace 1, back 20: n buckets are thrown in 1 to n, the first one again in 23. */
    private static HandLine far(int seconds, int buckets, int heat) {
        return Check.told(first(seconds, buckets, 1, 20) + hand(1, 0) + fire(heat, 0));
    }

    private static void withBuckets() {
        HandLine x = far(9, 3, 8);
        CHECK.dueRow("with", x::with, -2, -1, -1, -1, -1, -1, -1, -1, 8, -2);
        CHECK.dueRow("with, heat 1", far(9, 3, 1)::with, -2, 1, 1, 1, 1, 1, 1, 1, 1, -2);
        CHECK.due("with(8), one SECOND too few", far(8, 3, 8).with(8), -1);
        CHECK.due("with(7), in the last SECOND", far(24, 3, 8).with(7), 23);
        CHECK.due("with(7), one SECOND too few", far(23, 3, 8).with(7), -1);
        for (int n : new int[] {-1, 0, 9, Integer.MAX_VALUE, Integer.MIN_VALUE}) {
            CHECK.due("with(" + n + ")", x.with(n), -2);
            CHECK.due("with(" + n + ") of no BRIGADE", new HandLine().with(n), -2);
        }
        CHECK.due("with(1) of no BRIGADE", new HandLine().with(1), -2);
        CHECK.due("with(8) of no BRIGADE", new HandLine().with(8), -2);
        CHECK.due("with(1), without fire", Check.told(first(1, 8, 1, 0)).with(1), 0);
    }

    private static void withActs() {
        HandLine x = far(9, 3, 2);
        x.rest(0, 0, 2);
        CHECK.due("with(2), HAND 0 rests", x.with(2), 4);
        x.paces(0, 3);
        CHECK.due("with(2), another pace", x.with(2), 8);
        CHECK.due("with(1)", x.with(1), -1);
    }

    /** One HAND of pace p, many buckets: thrown in p, 2 p, .. */
    private static HandLine one(int seconds, int pace) {
        return Check.told(first(seconds, 8, 5, 0) + hand(pace, 0));
    }

    private static void easeToSix() {
        CHECK.due("ease(0), 6 at most", one(7, 4).ease(0), 6);
        CHECK.due("ease(0), 5", one(6, 4).ease(0), 5);
        CHECK.due("ease(0), his own at least", one(5, 4).ease(0), 4);
        CHECK.due("ease(0) of 6", one(7, 6).ease(0), 6);
        CHECK.due("ease(0) of 6, nothing thrown", one(6, 6).ease(0), 6);
        CHECK.due("ease(0) of 1", one(3, 1).ease(0), 1);
        CHECK.due("ease(0), once by 1 or 2", one(2, 1).ease(0), 1);
        CHECK.due("ease(0), nothing thrown", one(1, 1).ease(0), 6);
        CHECK.due("ease(0), no water thrown", Check.told(first(60, 8, 9, 0) + hand(1, 9)).ease(0), 6);
        CHECK.due("ease(1)", one(7, 4).ease(1), -2);
        CHECK.due("ease(-1)", one(7, 4).ease(-1), -2);
        CHECK.due("ease(0) of no BRIGADE", new HandLine().ease(0), -2);
        HandLine six = Check.told(first(12, 8, 30, 0) + hand(1, 0).repeat(5) + hand(6, 0));
        // The last one gets a bucket in 5 and throws it in 11, the last SECOND: nobody may be slower.
        CHECK.dueRow("ease of six", six::ease, 1, 1, 1, 1, 1, 6, -2);
    }

    private static void easeAsNow() {
        HandLine x = one(7, 4);
        x.paces(0, 3);
        CHECK.due("ease(0), twice thrown", x.ease(0), 3);
        x.paces(0, 6);
        CHECK.due("ease(0), his pace as now", x.ease(0), 6);
        x.anew();
        x.rest(0, 0, 1);
        // Taken in 1, thrown in 5 by pace 4, in 6 by 5, in 7 by 6.
        CHECK.due("ease(0) with a rest", x.ease(0), 5);
        CHECK.due("his pace stays", x.hand(0, 0), 4);
    }

    private static void slowIfMore() {
        CHECK.due("slow(), as much", one(2, 1).slow(), -1);
        CHECK.due("slow(), more by one bucket", one(4, 2).slow(), 0);
        CHECK.due("slow(), nothing thrown yet", one(2, 6).slow(), 0);
        CHECK.due("slow(), too late anyhow", one(1, 6).slow(), -1);
        HandLine same = Check.told(first(3, 8, 5, 0) + hand(1, 0) + hand(2, 0));
        // By pace 1 thrown in 2, else not ahead of 3.
        CHECK.due("slow(), the other one", same.slow(), 1);
        HandLine two = Check.told(first(4, 8, 5, 0) + hand(2, 0) + hand(2, 0));
        CHECK.due("slow(), the first of two", two.slow(), 0);
        HandLine six = Check.told(first(12, 1, 5, 20) + hand(2, 0).repeat(6));
        CHECK.due("slow(), the first of six", six.slow(), 0);
        six.paces(0, 1);
        CHECK.due("slow(), thrown in the last SECOND as it is", six.slow(), -1);
        six.paces(5, 3);
        CHECK.due("slow(), the first of five", six.slow(), 1);
        six.paces(5, 4);
        CHECK.due("slow(), the last one alone", six.slow(), 5);
        CHECK.due("slow() of no BRIGADE", new HandLine().slow(), -2);
    }

    private static void enoughBuckets() {
        CHECK.due("enough(), nothing thrown", far(1, 3, 1).enough(), 1);
        CHECK.due("enough(), thrown once", far(2, 3, 1).enough(), 1);
        CHECK.due("enough(), thrown twice", far(3, 3, 1).enough(), 2);
        CHECK.due("enough(), seven times", far(8, 3, 1).enough(), 7);
        CHECK.due("enough(), eight times", far(9, 3, 1).enough(), 8);
        CHECK.due("enough(), eight at most", far(20, 3, 1).enough(), 8);
        CHECK.due("enough(), by one told", far(9, 1, 1).enough(), 8);
        CHECK.due("enough() of no BRIGADE", new HandLine().enough(), -2);
        HandLine x = far(9, 3, 1);
        x.rest(0, 0, 5);
        CHECK.due("enough() with a rest", x.enough(), 3);
    }

    /** One bucket is thrown in 1. */
    private static HandLine once(int size, int spills, int heat, int grows) {
        return Check.told(first(9, 1, size, 20) + hand(1, spills) + (heat > 0 ? fire(heat, grows) : ""));
    }

    private static void leastSize() {
        CHECK.due("size(), the least", once(9, 0, 1, 0).size(), 1);
        CHECK.due("size(), spilt too", once(9, 9, 1, 0).size(), 10);
        CHECK.due("size(), the greatest", once(9, 9, 21, 0).size(), 30);
        CHECK.due("size(), one too great", once(9, 9, 22, 0).size(), -1);
        CHECK.due("size(), the greatest", once(9, 0, 30, 0).size(), 30);
        CHECK.due("size(), one too great", once(30, 0, 31, 0).size(), -1);
        CHECK.due("size(), grows in 0", once(9, 0, 21, 9).size(), 30);
        CHECK.due("size(), grows in 0, one too great", once(9, 0, 22, 9).size(), -1);
        CHECK.due("size(), without fire", once(30, 9, 0, 0).size(), 1);
        CHECK.due("size() of no BRIGADE", new HandLine().size(), -2);
        HandLine x = once(9, 0, 3, 0);
        CHECK.due("size()", x.size(), 3);
        x.rest(0, 0, 9);
        CHECK.due("size(), nothing thrown", x.size(), -1);
    }

    private static void greatestHeat() {
        CHECK.due("heat(), just as much", once(9, 0, 999, 0).heat(), 9);
        CHECK.due("heat(), grows in 0", once(9, 0, 999, 8).heat(), 1);
        CHECK.due("heat(), grows as much", once(9, 0, 999, 9).heat(), 0);
        CHECK.due("heat(), grows more", once(8, 0, 999, 9).heat(), 0);
        CHECK.due("heat(), without fire", once(9, 1, 0, 0).heat(), 8);
        CHECK.due("heat(), nothing thrown", Check.told(first(1, 1, 1, 0) + hand(1, 0)).heat(), 0);
        // 37 times 27, 40 times 25, and 33 times 30.
        CHECK.due("heat(), just 999", Check.told(first(38, 8, 27, 0) + hand(1, 0)).heat(), 999);
        CHECK.due("heat(), 999 at most", Check.told(first(41, 8, 25, 0) + hand(1, 0)).heat(), 999);
        CHECK.due("heat(), 990", Check.told(first(34, 8, 30, 0) + hand(1, 0)).heat(), 990);
        CHECK.due("heat(), 999 at most", Check.told(first(60, 8, 30, 0) + hand(1, 0)).heat(), 999);
        CHECK.due("heat() of no BRIGADE", new HandLine().heat(), -2);
        // Thrown in 1, 2, .., grows 4 of 5: each SECOND gains one.
        HandLine x = Check.told(first(10, 8, 5, 0) + hand(1, 0) + fire(999, 4));
        CHECK.due("heat(), by the last SECOND", x.heat(), 9);
        HandLine nine = Check.told(first(10, 8, 5, 0) + hand(1, 0) + fire(9, 4));
        CHECK.due("out() by it", nine.out(), 9);
        HandLine ten = Check.told(first(10, 8, 5, 0) + hand(1, 0) + fire(10, 4));
        CHECK.due("out() by one more", ten.out(), -1);
    }

    private static void round(String name, HandLine x, int settles, int round, int above, int below) {
        CHECK.due("settles() " + name, x.settles(), settles);
        CHECK.due("round() " + name, x.round(), round);
        CHECK.due("rate(0) " + name, x.rate(0), above);
        CHECK.due("rate(1) " + name, x.rate(1), below);
    }

    /** Thrown in p, taken again in p and 1 and back: as at the end of SECOND 0. */
    private static void roundOfOneBucket() {
        for (int pace = 1; pace <= 6; pace++) {
            for (int back = 0; back <= 20; back++) {
                HandLine x = Check.told(first(1, 1, 1, back) + hand(pace, 0));
                round("of pace " + pace + ", back " + back, x, 0, pace + 1 + back, 1, pace + 1 + back);
            }
        }
    }

    /** A HAND throws each p SECONDS, if there are buckets enough; else each bucket goes round in p and 1 and back. */
    private static void rateOfAnyBuckets() {
        for (int pace = 1; pace <= 6; pace++) {
            for (int back = 0; back <= 20; back++) {
                for (int n = 1; n <= 8; n++) {
                    int circle = pace + 1 + back;
                    int above = n * pace < circle ? n : 1;
                    int below = n * pace < circle ? circle : pace;
                    int common = java.math.BigInteger.valueOf(above).gcd(java.math.BigInteger.valueOf(below))
                            .intValue();
                    HandLine x = Check.told(first(60, n, 1, back) + hand(pace, 0));
                    CHECK.due("rate(0) of " + n + ", " + pace + ", " + back, x.rate(0), above / common);
                    CHECK.due("rate(1) of " + n + ", " + pace + ", " + back, x.rate(1), below / common);
                }
            }
        }
    }

    /**
     * HAND 0 of pace 1 waits for HAND 1: given on in 1, thrown in 4, 7, .. Of the ends of SECONDS 1 and 4 the first
     * one has no bucket on its way; 2 and 5 are alike, though HAND 0 holds his longer.
     */
    private static void roundOfReadyOnes() {
        HandLine x = Check.told(first(1, 8, 1, 0) + hand(1, 0) + hand(3, 0));
        round("of ready ones", x, 2, 3, 1, 3);
        HandLine y = Check.told(first(1, 8, 1, 0) + hand(1, 0) + hand(1, 0));
        // The end of 2 is the first at which one is on its way.
        round("of two who never wait", y, 2, 1, 1, 1);
        HandLine z = Check.told(first(1, 1, 1, 0) + hand(1, 0) + hand(1, 0));
        round("of two and one bucket", z, 0, 3, 1, 3);
        // Two buckets, two SECONDS apart, go round in four: told in lowest terms.
        HandLine w = Check.told(first(1, 2, 1, 1) + hand(2, 0));
        CHECK.due("rate(0), lowest terms", w.rate(0), 1);
        CHECK.due("rate(1), lowest terms", w.rate(1), 2);
    }

    private static void roundWithoutRestsAndSlips() {
        HandLine x = Check.told("brigade seconds 60 buckets 1 size 1 back 1 odds 10;" + hand(2, 1));
        round("with all SLIPS", x, 0, 4, 1, 4);
        for (int i = 0; i < 7; i++) {
            x.rest(0, 8 * i, 9);
        }
        round("with rests", x, 0, 4, 1, 4);
        x.paces(0, 6);
        round("by paces as now", x, 0, 8, 1, 8);
        x.undo();
        round("taken back", x, 0, 4, 1, 4);
    }

    private static void roundBeyondSixty() {
        HandLine x = Check.told(first(1, 7, 5, 0) + hand(5, 0) + hand(1, 0).repeat(4) + hand(6, 0));
        CHECK.due("settles() beyond 60", x.settles(), 104);
        CHECK.due("round()", x.round(), 6);
        CHECK.due("rate(0)", x.rate(0), 1);
        CHECK.due("rate(1)", x.rate(1), 6);
    }

    private static void whatIsToldStays() {
        HandLine x = Check.told(first(9, 3, 4, 5) + hand(2, 1) + hand(3, 0) + fire(6, 1));
        int water = x.water(8);
        x.with(8);
        x.ease(0);
        x.slow();
        x.enough();
        x.size();
        x.heat();
        x.settles();
        CHECK.dueRow("count", x::count, 9, 3, 4, 5, 0, 2, 0, 6, 1, 0, 4);
        CHECK.due("water(8)", x.water(8), water);
        CHECK.dueRow("pace", h -> x.hand(h, 0), 2, 3, -2);
    }

    private static void noHands() {
        HandLine x = Check.told(first(60, 8, 30, 0) + fire(1, 0));
        for (int what : new int[] {0, 1}) {
            CHECK.due("rate(" + what + ")", x.rate(what), -1);
            CHECK.due("rate(" + what + ") of no BRIGADE", new HandLine().rate(what), -2);
        }
        for (int what : new int[] {-1, 2, Integer.MAX_VALUE, Integer.MIN_VALUE}) {
            CHECK.due("rate(" + what + ")", x.rate(what), -2);
            CHECK.due("rate(" + what + ") of no BRIGADE", new HandLine().rate(what), -2);
        }
        CHECK.due("settles()", x.settles(), -1);
        CHECK.due("round()", x.round(), -1);
        CHECK.due("settles() of no BRIGADE", new HandLine().settles(), -2);
        CHECK.due("round() of no BRIGADE", new HandLine().round(), -2);
        CHECK.due("with(1)", x.with(1), -1);
        CHECK.due("with(8)", x.with(8), -1);
        CHECK.due("slow()", x.slow(), -1);
        CHECK.due("enough()", x.enough(), 1);
        CHECK.due("size()", x.size(), -1);
        CHECK.due("heat()", x.heat(), 0);
        CHECK.due("size(), without fire", Check.told(first(60, 8, 30, 0)).size(), 1);
        CHECK.due("heat(), without fire", Check.told(first(60, 8, 30, 0)).heat(), 0);
    }
}
