/** Promises 38 and 57 to 60: what sets of HANDS bring, their SHARES, and two who dawdle. */
public final class SetsTest {
    private static final Check CHECK = new Check();

    public static void main(String[] args) {
        sets();
        setsWithActs();
        shares();
        games();
        nobody();
        nothing();
        CHECK.finish();
    }

    private static HandLine two(int seconds, int firstPace, int otherPace) {
        return Check.told("brigade seconds " + seconds + " buckets 8 size 5 back 0 odds 0;hand pace " + firstPace
                + " spills 1;hand pace " + otherPace + " spills 0;");
    }

    /** HAND 0 alone throws in 1, 2, 3, 4; HAND 1 alone in 3; both of them in 4. */
    private static void sets() {
        HandLine x = two(5, 1, 3);
        CHECK.dueRow("brings", x::brings, 0, 16, 5, 4, -2);
        CHECK.due("brings(-1)", x.brings(-1), -2);
        CHECK.dueRow("without", x::without, 5, 16, -2);
        CHECK.due("without(-1)", x.without(-1), -2);
        CHECK.due("the line stays", x.water(4), 4);
        HandLine y = Check.told("brigade seconds 9 buckets 8 size 9 back 0 odds 0;hand pace 1 spills 1;"
                + "hand pace 2 spills 2;hand pace 3 spills 4;");
        // A set of two or three throws first when all paces are over, then by the slowest.
        CHECK.dueRow("brings", y::brings, 0, 8 * 8, 4 * 7, 3 * 6, 2 * 5, 2 * 4, 2 * 3, 1 * 2, -2);
    }

    private static void setsWithActs() {
        HandLine x = two(5, 1, 3);
        x.rest(0, 0, 2);
        x.paces(1, 2);
        // HAND 0 takes in 2; he alone throws in 3, 4; HAND 1 alone in 2, 4; both of them not ahead of 5.
        CHECK.dueRow("brings", x::brings, 0, 8, 10, 0, -2);
        CHECK.dueRow("without", x::without, 10, 8, -2);
        CHECK.due("share above", x.share(0, 0), -1);
        CHECK.due("share below", x.share(0, 1), 1);
        CHECK.due("share above", x.share(1, 0), 1);
    }

    private static void shares() {
        HandLine x = two(5, 1, 3);
        CHECK.dueRow("share above", h -> x.share(h, 0), 15, -7, -2);
        CHECK.dueRow("share below", h -> x.share(h, 1), 2, 2, -2);
        CHECK.due("share(-1, 0)", x.share(-1, 0), -2);
        CHECK.due("share(0, 2)", x.share(0, 2), -2);
        CHECK.due("share(0, -1)", x.share(0, -1), -2);
        HandLine y = Check.told("brigade seconds 9 buckets 8 size 9 back 0 odds 0;hand pace 1 spills 1;"
                + "hand pace 2 spills 2;hand pace 3 spills 4;");
        // HAND 0: (2 * 64 + (18 - 28) + (8 - 10) + 2 * (2 - 6)) / 6; HAND 1: (56 - 46 - 4 - 12) / 6;
        // HAND 2: (20 - 56 - 22 - 32) / 6; together what all bring, 2.
        CHECK.due("share above", y.share(0, 0), 18);
        CHECK.due("share below", y.share(0, 1), 1);
        CHECK.due("share above", y.share(1, 0), -1);
        CHECK.due("share below", y.share(1, 1), 1);
        CHECK.due("share above", y.share(2, 0), -15);
        CHECK.due("share below", y.share(2, 1), 1);
        HandLine dry = two(2, 6, 6);
        CHECK.due("share above of nothing", dry.share(0, 0), 0);
        CHECK.due("share below of nothing", dry.share(0, 1), 1);
        HandLine one = Check.told("brigade seconds 3 buckets 8 size 9 back 0 odds 0;hand pace 1 spills 1;");
        CHECK.due("share of one", one.share(0, 0), 16);
        CHECK.due("share of one", one.share(0, 1), 1);
    }

    private static void games() {
        HandLine x = two(12, 1, 3);
        // Thrown in 4, 7, 10; if HAND 0 dawdles in 5, 8, 11; HAND 1: in 5, 9; both: in 6, 10.
        CHECK.due("gets(0, 1, 0, 0)", x.gets(0, 1, 0, 0), 6);
        CHECK.due("gets(0, 1, 1, 0)", x.gets(0, 1, 1, 0), 11);
        CHECK.due("gets(0, 1, 0, 1)", x.gets(0, 1, 0, 1), 4);
        CHECK.due("gets(0, 1, 1, 1)", x.gets(0, 1, 1, 1), 9);
        CHECK.due("gets(1, 0, 1, 0)", x.gets(1, 0, 1, 0), 9);
        CHECK.due("gets(1, 0, 0, 1)", x.gets(1, 0, 0, 1), 6);
        CHECK.due("rests(0, 1)", x.rests(0, 1), 8);
        CHECK.due("rests(1, 0)", x.rests(1, 0), 8);
        CHECK.due("paces stay", x.hand(0, 0), 1);
        HandLine y = two(60, 1, 1);
        CHECK.due("gets(0, 1, 0, 0)", y.gets(0, 1, 0, 0), 116);
        CHECK.due("gets(0, 1, 1, 0)", y.gets(0, 1, 1, 0), 63);
        CHECK.due("gets(0, 1, 0, 1)", y.gets(0, 1, 0, 1), 58);
        CHECK.due("gets(0, 1, 1, 1)", y.gets(0, 1, 1, 1), 61);
        CHECK.due("rests(0, 1)", y.rests(0, 1), 9);
        HandLine z = two(60, 1, 3);
        // HAND 1 is slow: thrown 19 times in 4, 7, .., 58; in 5, 8, .., 59 if HAND 0 dawdles as often.
        CHECK.due("rests(0, 1), the first dawdles", z.rests(0, 1), 2);
        CHECK.due("rests(1, 0), the other dawdles", z.rests(1, 0), 4);
        HandLine six = two(8, 6, 1);
        CHECK.due("gets(), thrown in 7", six.gets(1, 0, 0, 0), 2);
        CHECK.due("gets(), a pace of 7", six.gets(1, 0, 0, 1), 0);
        int[][] wrong = {{0, 0, 0, 0}, {0, 2, 0, 0}, {2, 0, 0, 0}, {-1, 0, 0, 0}, {0, -1, 0, 0}, {0, 1, 2, 0},
            {0, 1, 0, 2}, {0, 1, -1, 0}, {0, 1, 0, -1}};
        for (int[] w : wrong) {
            CHECK.due("gets", x.gets(w[0], w[1], w[2], w[3]), -1000);
        }
        CHECK.due("rests(0, 0)", x.rests(0, 0), -2);
        CHECK.due("rests(0, 2)", x.rests(0, 2), -2);
        CHECK.due("rests(2, 0)", x.rests(2, 0), -2);
        CHECK.due("rests(-1, 0)", x.rests(-1, 0), -2);
        CHECK.due("rests(0, -1)", x.rests(0, -1), -2);
    }

    private static void nobody() {
        HandLine x = Check.told("brigade seconds 5 buckets 8 size 5 back 0 odds 0;");
        CHECK.due("brings(0)", x.brings(0), 0);
        CHECK.due("brings(1)", x.brings(1), -2);
    }

    private static void nothing() {
        HandLine x = new HandLine();
        CHECK.due("brings(0)", x.brings(0), -2);
        CHECK.due("without(0)", x.without(0), -2);
        CHECK.due("share(0, 0)", x.share(0, 0), -2);
        CHECK.due("rests(0, 1)", x.rests(0, 1), -2);
        CHECK.due("gets(0, 1, 0, 0)", x.gets(0, 1, 0, 0), -1000);
    }
}
