import java.math.BigInteger;

/** The edges that Term IX and promises 61, 62, 67 and 68 name, each sentence by itself. */
public final class SlipsEdgesTest {
    private static final int LEAST = Integer.MIN_VALUE;
    private static final int GREATEST = Integer.MAX_VALUE;
    private static final int MOST = 2_000_000_000;
    private static final Check CHECK = new Check();

    public static void main(String[] args) {
        chancesOfAllOdds();
        meansOfAllOdds();
        slipsHoldLonger();
        slipsTake();
        secondsToSeven();
        secondsThereAre();
        noSuchChance();
        chancesWithActs();
        chancesOfNobody();
        drawsBySeeds();
        drawsOfAllOdds();
        drawsOfSixty();
        drawsOut();
        noSuchNight();
        lucksOfTwenty();
        lucksBeyondTheGreatestSeed();
        lucksOfAllOrNone();
        noSuchLuck();
        CHECK.finish();
    }

    /** Many buckets, pace 1: one is thrown in each SECOND from 1 on in which there is no SLIP. */
    private static HandLine one(int seconds, int odds, String more) {
        return Check.told("brigade seconds " + seconds + " buckets 8 size 3 back 0 odds " + odds
                + ";hand pace 1 spills 1;" + more);
    }

    private static void fraction(String name, long above, long below, BigInteger wantAbove, BigInteger wantBelow) {
        BigInteger common = wantAbove.gcd(wantBelow);
        CHECK.due(name + ", above", above, wantAbove.divide(common).longValue());
        CHECK.due(name + ", below", below, wantBelow.divide(common).longValue());
    }

    private static BigInteger big(long n) {
        return BigInteger.valueOf(n);
    }

    private static BigInteger ways(int n, int k) {
        BigInteger ways = BigInteger.ONE;
        for (int i = 0; i < k; i++) {
            ways = ways.multiply(big(n - i)).divide(big(i + 1));
        }
        return ways;
    }

    private static void chancesOfAllOdds() {
        for (int odds = 0; odds <= 10; odds++) {
            HandLine x = one(8, odds, "");
            for (int second = 0; second <= 7; second++) {
                for (int n = 0; n <= 9; n++) {
                    BigInteger sum = BigInteger.ZERO;
                    for (int k = n; k <= second; k++) {
                        sum = sum.add(ways(second, k).multiply(big(10 - odds).pow(k))
                                .multiply(big(odds).pow(second - k)));
                    }
                    String name = "chance of " + odds + ", " + second + ", " + n;
                    fraction(name, x.chance(second, n, 0), x.chance(second, n, 1), sum, big(10).pow(second));
                }
            }
        }
    }

    private static void meansOfAllOdds() {
        for (int odds = 0; odds <= 10; odds++) {
            HandLine x = one(8, odds, "");
            for (int second = 0; second <= 7; second++) {
                String name = "mean of " + odds + ", " + second;
                fraction(name, x.mean(second, 0), x.mean(second, 1), big(2 * second * (10 - odds)), big(10));
            }
        }
    }

    /** Pace 3: in SLIPS in 1 and 2 the bucket is held longer all the same, so that only 3 matters. */
    private static void slipsHoldLonger() {
        HandLine x = Check.told("brigade seconds 4 buckets 1 size 3 back 0 odds 3;hand pace 3 spills 0;");
        CHECK.due("chance, above", x.chance(3, 1, 0), 7);
        CHECK.due("chance, below", x.chance(3, 1, 1), 10);
        CHECK.due("mean, above", x.mean(3, 0), 21);
        CHECK.due("mean, below", x.mean(3, 1), 10);
    }

    /** A bucket is taken in 0, SLIP or not; a SLIP in 1 keeps it from being given on, one in 2 from being thrown. */
    private static void slipsTake() {
        HandLine x = Check.told("brigade seconds 3 buckets 1 size 3 back 0 odds 1;hand pace 1 spills 0;"
                + "hand pace 1 spills 0;");
        CHECK.due("chance, above", x.chance(2, 1, 0), 81);
        CHECK.due("chance, below", x.chance(2, 1, 1), 100);
        HandLine all = Check.told("brigade seconds 3 buckets 1 size 3 back 0 odds 10;hand pace 1 spills 0;");
        CHECK.due("drawn(0, 0), SLIPS in all", all.drawn(0, 0), 3);
        CHECK.due("chance of 0", all.chance(2, 0, 0), 1);
        CHECK.due("chance of 1", all.chance(2, 1, 0), 0);
        CHECK.due("chance of 1, 0 / 1", all.chance(2, 1, 1), 1);
        CHECK.due("mean", all.mean(2, 0), 0);
        CHECK.due("mean, 0 / 1", all.mean(2, 1), 1);
    }

    private static void secondsToSeven() {
        HandLine x = one(60, 5, "");
        CHECK.due("chance(0, 0, 0)", x.chance(0, 0, 0), 1);
        CHECK.due("chance(7, 7, 1)", x.chance(7, 7, 1), 128);
        CHECK.due("chance(7, 9, 0)", x.chance(7, 9, 0), 0);
        CHECK.due("mean(7, 0)", x.mean(7, 0), 7);
        for (int second : new int[] {-1, 8, 59, 60, GREATEST, LEAST}) {
            CHECK.due("chance(" + second + ", 0, 0)", x.chance(second, 0, 0), -2);
            CHECK.due("mean(" + second + ", 0)", x.mean(second, 0), -2);
        }
    }

    private static void secondsThereAre() {
        for (int seconds = 1; seconds <= 9; seconds++) {
            HandLine x = one(seconds, 5, "");
            int last = Math.min(7, seconds - 1);
            CHECK.due("chance of the last of " + seconds, x.chance(last, 0, 0), 1);
            CHECK.due("chance, one beyond " + seconds, x.chance(last + 1, 0, 0), -2);
            CHECK.due("mean of the last of " + seconds, x.mean(last, 0), last);
            CHECK.due("mean, one beyond " + seconds, x.mean(last + 1, 0), -2);
        }
    }

    private static void noSuchChance() {
        HandLine x = one(8, 5, "");
        for (int n : new int[] {-1, 10, GREATEST, LEAST}) {
            CHECK.due("chance(0, " + n + ", 0)", x.chance(0, n, 0), -2);
            CHECK.due("chance(7, " + n + ", 1)", x.chance(7, n, 1), -2);
        }
        for (int what : new int[] {-1, 2, GREATEST, LEAST}) {
            CHECK.due("chance(0, 0, " + what + ")", x.chance(0, 0, what), -2);
            CHECK.due("mean(0, " + what + ")", x.mean(0, what), -2);
        }
        HandLine none = new HandLine();
        for (int what : new int[] {0, 1}) {
            CHECK.due("chance of no BRIGADE", none.chance(0, 0, what), -2);
            CHECK.due("mean of no BRIGADE", none.mean(0, what), -2);
        }
    }

    private static void chancesWithActs() {
        HandLine x = one(8, 5, "");
        x.rest(0, 0, 7);
        // Taken in 7: nothing is thrown to its end.
        CHECK.due("chance with a rest", x.chance(7, 1, 0), 0);
        CHECK.due("mean with a rest", x.mean(7, 0), 0);
        x.undo();
        x.paces(0, 6);
        CHECK.due("chance of pace 6, too early", x.chance(5, 1, 0), 0);
        CHECK.due("chance of pace 6, above", x.chance(7, 1, 0), 3);
        CHECK.due("chance of pace 6, below", x.chance(7, 1, 1), 4);
        x.undo();
        x.fills(30);
        CHECK.due("mean of size 30, above", x.mean(1, 0), 29);
        CHECK.due("mean of size 30, below", x.mean(1, 1), 2);
    }

    private static void chancesOfNobody() {
        HandLine x = Check.told("brigade seconds 8 buckets 8 size 3 back 0 odds 5;");
        CHECK.due("chance(7, 0, 0)", x.chance(7, 0, 0), 1);
        CHECK.due("chance(7, 0, 1)", x.chance(7, 0, 1), 1);
        CHECK.due("chance(7, 1, 0)", x.chance(7, 1, 0), 0);
        CHECK.due("chance(7, 1, 1)", x.chance(7, 1, 1), 1);
        CHECK.due("mean(7, 0)", x.mean(7, 0), 0);
        CHECK.due("mean(7, 1)", x.mean(7, 1), 1);
        CHECK.due("drawn(0, 1)", x.drawn(0, 1), 0);
        CHECK.due("drawn(0, 2), without fire", x.drawn(0, 2), 0);
    }

    /** The first twelve draws of the least seeds and the greatest ones. */
    private static void drawsBySeeds() {
        int[] seeds = {0, 1, 1_999_999_999, MOST};
        int[][] draws = {{0, 8, 8, 7, 8, 7, 5, 1, 2, 0, 1, 2}, {8, 8, 3, 5, 1, 7, 0, 9, 2, 6, 9, 7},
            {3, 3, 6, 9, 1, 1, 9, 0, 5, 8, 9, 4}, {4, 3, 1, 7, 6, 2, 7, 7, 5, 4, 7, 0}};
        for (int odds = 0; odds <= 10; odds++) {
            for (int seconds = 1; seconds <= 12; seconds++) {
                HandLine x = one(seconds, odds, "");
                for (int i = 0; i < seeds.length; i++) {
                    int slips = 0;
                    int thrown = 0;
                    for (int second = 0; second < seconds; second++) {
                        boolean slip = draws[i][second] < odds;
                        slips += slip ? 1 : 0;
                        thrown += !slip && second > 0 ? 1 : 0;
                    }
                    String name = " of " + seeds[i] + ", odds " + odds + ", " + seconds;
                    CHECK.due("SLIPS" + name, x.drawn(seeds[i], 0), slips);
                    CHECK.due("thrown" + name, x.drawn(seeds[i], 1), thrown);
                }
            }
        }
    }

    private static void drawsOfAllOdds() {
        CHECK.due("SLIPS, odds 0", one(60, 0, "").drawn(7, 0), 0);
        CHECK.due("SLIPS, odds 10", one(60, 10, "").drawn(7, 0), 60);
        CHECK.due("thrown, odds 0", one(60, 0, "").drawn(7, 1), 59);
        CHECK.due("thrown, odds 10", one(60, 10, "").drawn(7, 1), 0);
    }

    /** x by numbers of any length, as the document tells it. */
    private static int[] draws(long seed, int n) {
        BigInteger x = big(seed);
        int[] draws = new int[n];
        for (int i = 0; i < n; i++) {
            x = x.multiply(big(1103515245)).add(big(12345)).mod(big(2147483648L));
            draws[i] = x.divide(big(65536)).mod(big(10)).intValue();
        }
        return draws;
    }

    private static void drawsOfSixty() {
        HandLine x = one(60, 4, "");
        for (int seed : new int[] {0, 1, 65535, 65536, 1 << 30, MOST - 1, MOST}) {
            int slips = 0;
            for (int draw : draws(seed, 60)) {
                slips += draw < 4 ? 1 : 0;
            }
            CHECK.due("SLIPS of sixty from " + seed, x.drawn(seed, 0), slips);
        }
    }

    private static void drawsOut() {
        // From 0, odds 8, SLIPS in 0, 3, 5: 2 are thrown in 1, 2, 4 each.
        CHECK.due("drawn(0, 2), heat 2", one(6, 8, "fire heat 2 grows 0;").drawn(0, 2), 1);
        CHECK.due("drawn(0, 2), heat 4", one(6, 8, "fire heat 4 grows 0;").drawn(0, 2), 2);
        CHECK.due("drawn(0, 2), heat 5", one(6, 8, "fire heat 5 grows 0;").drawn(0, 2), 4);
        CHECK.due("drawn(0, 2), heat 6", one(6, 8, "fire heat 6 grows 0;").drawn(0, 2), 4);
        CHECK.due("drawn(0, 2), heat 7", one(6, 8, "fire heat 7 grows 0;").drawn(0, 2), -1);
        CHECK.due("drawn(0, 2), ahead of it", one(4, 8, "fire heat 5 grows 0;").drawn(0, 2), -1);
        CHECK.due("drawn(0, 2), without fire", one(6, 8, "").drawn(0, 2), 0);
        HandLine x = one(6, 8, "fire heat 5 grows 0;");
        x.drawn(0, 2);
        CHECK.due("SLIPS are gone then", x.out(), 3);
    }

    private static void noSuchNight() {
        HandLine x = one(6, 8, "");
        for (int what = 0; what <= 2; what++) {
            for (int seed : new int[] {-1, MOST + 1, GREATEST, LEAST}) {
                CHECK.due("drawn(" + seed + ", " + what + ")", x.drawn(seed, what), -2);
            }
            CHECK.due("drawn of no BRIGADE", new HandLine().drawn(0, what), -2);
        }
        for (int what : new int[] {-1, 3, GREATEST, LEAST}) {
            CHECK.due("drawn(0, " + what + ")", x.drawn(0, what), -2);
        }
    }

    private static int outInTwo(long seed, int n, int odds) {
        int nights = 0;
        for (int i = 0; i < n; i++) {
            nights += draws(seed + i, 2)[1] >= odds ? 1 : 0;
        }
        return nights;
    }

    /** OUT in SECOND 1, if there is no SLIP in it. */
    private static void lucksOfTwenty() {
        for (int odds = 0; odds <= 10; odds++) {
            HandLine x = one(2, odds, "fire heat 1 grows 1;");
            for (int n = 1; n <= 20; n++) {
                CHECK.due("luck(0, " + n + ")", x.luck(0, n), outInTwo(0, n, odds));
                CHECK.due("luck(12345, " + n + ")", x.luck(12345, n), outInTwo(12345, n, odds));
            }
        }
    }

    private static void lucksBeyondTheGreatestSeed() {
        HandLine x = one(2, 4, "fire heat 1 grows 1;");
        for (int n = 1; n <= 20; n++) {
            CHECK.due("luck of the greatest seed, " + n, x.luck(MOST, n), outInTwo(MOST, n, 4));
        }
    }

    private static void lucksOfAllOrNone() {
        CHECK.due("luck, odds 0", one(2, 0, "fire heat 1 grows 0;").luck(7, 20), 20);
        CHECK.due("luck, odds 10", one(60, 10, "fire heat 1 grows 0;").luck(7, 20), 0);
        CHECK.due("luck without fire", one(1, 10, "").luck(7, 20), 20);
        CHECK.due("luck without HANDS", Check.told("brigade seconds 9 buckets 1 size 1 back 0 odds 0;"
                + "fire heat 1 grows 0;").luck(7, 20), 0);
        HandLine x = one(2, 0, "fire heat 1 grows 0;");
        x.rest(0, 1, 1);
        CHECK.due("luck with a rest", x.luck(7, 20), 0);
    }

    private static void noSuchLuck() {
        HandLine x = one(2, 4, "");
        for (int n : new int[] {-1, 0, 21, GREATEST, LEAST}) {
            CHECK.due("luck(0, " + n + ")", x.luck(0, n), -2);
        }
        for (int seed : new int[] {-1, MOST + 1, GREATEST, LEAST}) {
            CHECK.due("luck(" + seed + ", 1)", x.luck(seed, 1), -2);
        }
        CHECK.due("luck of no BRIGADE", new HandLine().luck(0, 1), -2);
    }
}
