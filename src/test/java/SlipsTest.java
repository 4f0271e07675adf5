/** Promises 61, 62, 67 and 68: SLIPS by chance, and NIGHTS drawn. */
public final class SlipsTest {
    private static final Check CHECK = new Check();

    public static void main(String[] args) {
        chances();
        means();
        slipsAndTakes();
        wrongChances();
        nights();
        lucks();
        CHECK.finish();
    }

    private static HandLine one(int seconds, int odds, String more) {
        return Check.told("brigade seconds " + seconds + " buckets 8 size 2 back 0 odds " + odds
                + ";hand pace 1 spills 0;" + more);
    }

    private static void chance(HandLine x, int second, int n, long above, long below) {
        CHECK.due("chance above, " + second + " " + n, x.chance(second, n, 0), above);
        CHECK.due("chance below, " + second + " " + n, x.chance(second, n, 1), below);
    }

    private static void mean(HandLine x, int second, long above, long below) {
        CHECK.due("mean above, " + second, x.mean(second, 0), above);
        CHECK.due("mean below, " + second, x.mean(second, 1), below);
    }

    private static void chances() {
        HandLine x = one(60, 5, "");
        chance(x, 0, 0, 1, 1);
        chance(x, 0, 1, 0, 1);
        chance(x, 1, 1, 1, 2);
        chance(x, 2, 1, 3, 4);
        chance(x, 2, 2, 1, 4);
        chance(x, 2, 3, 0, 1);
        chance(x, 7, 7, 1, 128);
        chance(x, 7, 6, 1, 16);
        chance(x, 7, 9, 0, 1);
        HandLine y = one(8, 3, "");
        chance(y, 1, 1, 7, 10);
        chance(y, 7, 7, 823543, 10000000);
        chance(y, 7, 1, 10000000 - 2187, 10000000);
        chance(one(8, 0, ""), 7, 7, 1, 1);
        chance(one(8, 10, ""), 7, 1, 0, 1);
        chance(one(8, 10, ""), 7, 0, 1, 1);
        HandLine rests = one(8, 5, "");
        rests.rest(0, 2, 1);
        chance(rests, 2, 1, 1, 2);
        rests.paces(0, 2);
        chance(rests, 2, 1, 0, 1);
        chance(rests, 3, 1, 1, 2);
        HandLine nobody = Check.told("brigade seconds 8 buckets 8 size 2 back 0 odds 5;");
        chance(nobody, 3, 0, 1, 1);
        chance(nobody, 3, 1, 0, 1);
    }

    private static void means() {
        HandLine x = one(60, 5, "");
        mean(x, 0, 0, 1);
        mean(x, 1, 1, 1);
        mean(x, 2, 2, 1);
        mean(one(8, 3, ""), 2, 14, 5);
        mean(one(8, 3, ""), 7, 49, 5);
        mean(one(8, 10, ""), 7, 0, 1);
        HandLine spills = Check.told("brigade seconds 8 buckets 8 size 9 back 0 odds 5;hand pace 1 spills 4;");
        mean(spills, 1, 5, 2);
    }

    /** One bucket: in a SLIP nothing is thrown, but one is taken, and held longer. */
    private static void slipsAndTakes() {
        HandLine x = Check.told("brigade seconds 4 buckets 1 size 2 back 0 odds 5;hand pace 1 spills 0;"
                + "hand pace 2 spills 1;");
        // Given on in 1, ready for 3: both without a SLIP.
        chance(x, 3, 1, 1, 4);
        mean(x, 3, 1, 4);
        chance(x, 2, 1, 0, 1);
        CHECK.due("thrown(3), without SLIPS", x.thrown(3), 1);
    }

    private static void wrongChances() {
        HandLine x = one(8, 5, "");
        int[][] wrong = {{8, 0, 0}, {-1, 0, 0}, {0, -1, 0}, {0, 10, 0}, {0, 0, 2}, {0, 0, -1}};
        for (int[] w : wrong) {
            CHECK.due("chance", x.chance(w[0], w[1], w[2]), -2);
        }
        CHECK.due("chance(8) of 60", one(60, 5, "").chance(8, 0, 0), -2);
        CHECK.due("chance(3) of 3", one(3, 5, "").chance(3, 0, 0), -2);
        CHECK.due("chance(2) of 3", one(3, 5, "").chance(2, 0, 0), 1);
        CHECK.due("mean(8)", x.mean(8, 0), -2);
        CHECK.due("mean(8) of 60", one(60, 5, "").mean(8, 0), -2);
        CHECK.due("mean(3) of 3", one(3, 5, "").mean(3, 0), -2);
        CHECK.due("mean(-1)", x.mean(-1, 0), -2);
        CHECK.due("mean(0, 2)", x.mean(0, 2), -2);
        CHECK.due("mean(0, -1)", x.mean(0, -1), -2);
        HandLine none = new HandLine();
        CHECK.due("chance(0, 0, 0)", none.chance(0, 0, 0), -2);
        CHECK.due("mean(0, 0)", none.mean(0, 0), -2);
    }

    /** From seed 0 x / 65536 is 0, 21468, 9988, 22117, 3498, 16927; from 1 16838, 5758, 10113, 17515, 31051, 5627. */
    private static void nights() {
        int[] slips = {0, 1, 1, 1, 1, 1, 1, 1, 3, 6, 6};
        for (int odds = 0; odds <= 10; odds++) {
            CHECK.due("SLIPS, odds " + odds, one(6, odds, "").drawn(0, 0), slips[odds]);
        }
        CHECK.due("SLIPS from 1", one(6, 8, "").drawn(1, 0), 4);
        CHECK.due("SLIPS from 1", one(6, 2, "").drawn(1, 0), 1);
        CHECK.due("drawn(1, 1), in 1 alone", one(6, 8, "").drawn(1, 1), 1);
        HandLine x = one(6, 8, "fire heat 5 grows 0;");
        CHECK.due("drawn(0, 1), in 1, 2, 4", x.drawn(0, 1), 3);
        CHECK.due("drawn(0, 2)", x.drawn(0, 2), 4);
        CHECK.due("without SLIPS", x.out(), 3);
        CHECK.due("drawn(0, 2), never", one(6, 8, "fire heat 7 grows 0;").drawn(0, 2), -1);
        x.rest(0, 4, 1);
        CHECK.due("drawn(0, 1) with a rest", x.drawn(0, 1), 2);
        CHECK.due("drawn(0, 2) with a rest", x.drawn(0, 2), -1);
        CHECK.due("the greatest seed", one(1, 10, "").drawn(2000000000, 0), 1);
        CHECK.due("a greater seed", one(1, 10, "").drawn(2000000001, 0), -2);
        CHECK.due("a seed below 0", x.drawn(-1, 0), -2);
        CHECK.due("drawn(0, 3)", x.drawn(0, 3), -2);
        CHECK.due("drawn(0, -1)", x.drawn(0, -1), -2);
        CHECK.due("drawn of no BRIGADE", new HandLine().drawn(0, 0), -2);
    }

    private static void lucks() {
        HandLine x = Check.told("brigade seconds 2 buckets 8 size 2 back 0 odds 8;hand pace 1 spills 0;"
                + "fire heat 2 grows 0;");
        int out = 0;
        for (int i = 0; i < 20; i++) {
            out += x.drawn(100 + i, 2) >= 0 ? 1 : 0;
            CHECK.due("luck(100, " + (i + 1) + ")", x.luck(100, i + 1), out);
        }
        CHECK.due("luck, some but not all", out > 0 && out < 20 ? 1 : 0, 1);
        CHECK.due("luck without SLIPS", one(9, 0, "fire heat 4 grows 0;").luck(5, 20), 20);
        CHECK.due("luck by SLIPS alone", one(9, 10, "fire heat 4 grows 0;").luck(5, 20), 0);
        CHECK.due("luck without fire", one(9, 10, "").luck(2000000000, 1), 1);
        int[][] wrong = {{0, 0}, {0, 21}, {-1, 1}, {2000000001, 1}, {0, -1}};
        for (int[] w : wrong) {
            CHECK.due("luck", x.luck(w[0], w[1]), -2);
        }
        CHECK.due("luck of no BRIGADE", new HandLine().luck(0, 1), -2);
    }
}
