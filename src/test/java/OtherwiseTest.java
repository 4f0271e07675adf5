/** Promises 36 to 45: what were if buckets, paces, size or heat were others, and the ROUND. */
public final class OtherwiseTest {
    private static final Check CHECK = new Check();

    public static void main(String[] args) {
        buckets();
        paces();
        sizes();
        heats();
        rounds();
        nobody();
        nothing();
        CHECK.finish();
    }

    /** One HAND of pace p and one bucket: thrown in SECOND p, again each p and 1 and back SECONDS. */
    private static HandLine one(int seconds, int pace, int grows) {
        return Check.told("brigade seconds " + seconds + " buckets 1 size 5 back 1 odds 0;hand pace " + pace
                + " spills 1;fire heat 8 grows " + grows + ";");
    }

    private static void buckets() {
        HandLine x = one(12, 2, 0);
        CHECK.dueRow("when", x::when, 2, 6, 10, -1);
        CHECK.dueRow("with", x::with, -2, 6, 4, 4, 4, 4, 4, 4, 4, -2);
        CHECK.due("with(-1)", x.with(-1), -2);
        CHECK.due("buckets stay", x.count(1), 1);
        CHECK.due("out() stays", x.out(), 6);
        CHECK.due("enough()", x.enough(), 2);
        CHECK.due("with(1), never OUT", one(6, 2, 0).with(1), -1);
        CHECK.due("with(2), in the last SECOND", one(5, 2, 0).with(2), 4);
        CHECK.due("enough() of one", one(3, 2, 0).enough(), 1);
        HandLine y = Check.told("brigade seconds 60 buckets 1 size 5 back 20 odds 0;hand pace 3 spills 0;");
        CHECK.due("enough() of eight", y.enough(), 8);
        HandLine z = Check.told("brigade seconds 60 buckets 1 size 5 back 20 odds 0;hand pace 1 spills 9;");
        CHECK.due("enough() of no water", z.enough(), 1);
    }

    private static void paces() {
        HandLine x = one(12, 2, 0);
        CHECK.due("slow()", x.slow(), 0);
        CHECK.due("ease(0)", x.ease(0), 2);
        CHECK.due("ease(0) with time", one(9, 2, 0).ease(0), 3);
        CHECK.due("ease(0) to 6", one(2, 4, 0).ease(0), 6);
        CHECK.due("ease(0) from 6", one(12, 6, 0).ease(0), 6);
        CHECK.due("ease(1)", x.ease(1), -2);
        CHECK.due("ease(-1)", x.ease(-1), -2);
        CHECK.due("slow() of pace 1", one(12, 1, 0).slow(), -1);
        CHECK.due("slow() of no use", one(4, 3, 0).slow(), -1);
        CHECK.due("slow() of use", one(5, 3, 0).slow(), 0);
        HandLine y = Check.told("brigade seconds 20 buckets 8 size 5 back 0 odds 0;hand pace 2 spills 0;"
                + "hand pace 4 spills 0;hand pace 3 spills 0;");
        // Thrown in 9, 13, 17; with HAND 1 of pace 1 in 6, 9, 12, 15, 18, with another in each fourth still.
        CHECK.dueRow("when", y::when, 9, 13, 17, -1);
        CHECK.due("slow()", y.slow(), 1);
        CHECK.dueRow("ease", y::ease, 4, 4, 4, -2);
        y.paces(2, 4);
        // Thrown in 10, 14, 18; with one of the two of pace 1 in 7, 11, 15, 19.
        CHECK.due("slow() of two as slow", y.slow(), 1);
        CHECK.dueRow("ease as now", y::ease, 3, 4, 4, -2);
        HandLine dry = Check.told("brigade seconds 20 buckets 8 size 5 back 0 odds 0;hand pace 2 spills 9;");
        CHECK.due("slow() without water", dry.slow(), -1);
        CHECK.due("ease(0) without water", dry.ease(0), 6);
        HandLine same = Check.told("brigade seconds 6 buckets 1 size 5 back 20 odds 0;hand pace 3 spills 0;"
                + "hand pace 3 spills 0;");
        CHECK.due("slow(), the first of two", same.slow(), 0);
    }

    private static void sizes() {
        CHECK.due("size()", one(12, 2, 0).size(), 4);
        CHECK.due("size() that grows", one(12, 2, 1).size(), 7);
        CHECK.due("size() in one", one(4, 2, 0).size(), 9);
        CHECK.due("size() of none", one(2, 2, 0).size(), -1);
        HandLine x = Check.told("brigade seconds 4 buckets 1 size 5 back 1 odds 0;hand pace 1 spills 1;"
                + "fire heat 29 grows 0;");
        CHECK.due("size() 30", x.size(), 30);
        CHECK.due("the size told stays", x.count(2), 5);
        x.brings(0);
        CHECK.due("size() behind another question", x.size(), 30);
        HandLine y = Check.told("brigade seconds 4 buckets 1 size 5 back 1 odds 0;hand pace 1 spills 1;");
        CHECK.due("size() without fire", y.size(), 1);
    }

    private static void heats() {
        CHECK.due("heat()", one(12, 2, 0).heat(), 12);
        CHECK.due("heat() that grows", one(12, 2, 1).heat(), 2);
        CHECK.due("heat() that grows more", one(12, 2, 3).heat(), 0);
        CHECK.due("heat() of nothing thrown", one(2, 2, 0).heat(), 0);
        HandLine x = Check.told("brigade seconds 60 buckets 8 size 30 back 0 odds 0;hand pace 1 spills 0;");
        CHECK.due("water", x.water(59), 1770);
        CHECK.due("heat() to 999", x.heat(), 999);
        HandLine y = Check.told("brigade seconds 34 buckets 8 size 30 back 0 odds 0;hand pace 1 spills 0;");
        CHECK.due("heat()", y.heat(), 990);
        HandLine z = Check.told("brigade seconds 10 buckets 1 size 30 back 20 odds 0;hand pace 1 spills 0;"
                + "fire heat 1 grows 9;");
        CHECK.due("heat(), by an early bucket", z.heat(), 21);
        CHECK.due("the heat told stays", z.count(7), 1);
    }

    private static void round(HandLine x, int settles, int round, int above, int below) {
        CHECK.due("settles()", x.settles(), settles);
        CHECK.due("round()", x.round(), round);
        CHECK.due("rate(0)", x.rate(0), above);
        CHECK.due("rate(1)", x.rate(1), below);
    }

    private static void rounds() {
        round(one(12, 2, 0), 0, 4, 1, 4);
        // The first time the second bucket is at the river still, later the other one is on its way.
        round(Check.told("brigade seconds 1 buckets 2 size 5 back 1 odds 9;hand pace 2 spills 1;"), 2, 2, 1, 2);
        round(Check.told("brigade seconds 1 buckets 2 size 5 back 0 odds 0;hand pace 1 spills 0;"), 1, 1, 1, 1);
        round(Check.told("brigade seconds 1 buckets 1 size 5 back 0 odds 0;hand pace 1 spills 0;"), 0, 2, 1, 2);
        // Three SECONDS to and fro, two buckets: 2 / 3.
        round(Check.told("brigade seconds 1 buckets 2 size 5 back 1 odds 0;hand pace 1 spills 0;"), 1, 3, 2, 3);
        // Two go round at once, four buckets in eight SECONDS: told in lowest terms.
        round(Check.told("brigade seconds 1 buckets 2 size 5 back 20 odds 0;hand pace 6 spills 0;"), 6, 27, 2, 27);
        // Beyond 60 SECONDS.
        round(Check.told("brigade seconds 5 buckets 7 size 5 back 0 odds 0;hand pace 5 spills 0;"
                + "hand pace 1 spills 0;hand pace 1 spills 0;hand pace 1 spills 0;hand pace 1 spills 0;"
                + "hand pace 6 spills 0;"), 104, 6, 1, 6);
        HandLine x = one(12, 2, 0);
        x.rest(0, 0, 9);
        round(x, 0, 4, 1, 4);
        x.paces(0, 4);
        round(x, 0, 6, 1, 6);
        CHECK.due("rate(2)", x.rate(2), -2);
        CHECK.due("rate(-1)", x.rate(-1), -2);
    }

    private static void nobody() {
        HandLine x = Check.told("brigade seconds 4 buckets 3 size 1 back 0 odds 5;fire heat 5 grows 0;");
        CHECK.due("settles()", x.settles(), -1);
        CHECK.due("round()", x.round(), -1);
        CHECK.due("rate(0)", x.rate(0), -1);
        CHECK.due("rate(1)", x.rate(1), -1);
        CHECK.due("rate(2)", x.rate(2), -2);
        CHECK.due("slow()", x.slow(), -1);
        CHECK.due("enough()", x.enough(), 1);
        CHECK.due("size()", x.size(), -1);
        CHECK.due("heat()", x.heat(), 0);
        CHECK.due("with(8)", x.with(8), -1);
        CHECK.due("without(0)", x.without(0), -2);
    }

    private static void nothing() {
        HandLine x = new HandLine();
        CHECK.due("with(1)", x.with(1), -2);
        CHECK.due("ease(0)", x.ease(0), -2);
        CHECK.due("without(0)", x.without(0), -2);
        CHECK.due("settles()", x.settles(), -2);
        CHECK.due("round()", x.round(), -2);
        CHECK.due("rate(0)", x.rate(0), -2);
        CHECK.due("slow()", x.slow(), -2);
        CHECK.due("enough()", x.enough(), -2);
        CHECK.due("size()", x.size(), -2);
        CHECK.due("heat()", x.heat(), -2);
    }
}
