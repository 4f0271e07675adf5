/** Promises 9 to 33 and 35: a line told SECOND by SECOND, worked out by hand. */
public final class SecondsTest {
    private static final Check CHECK = new Check();
    private static final String THREE = "brigade seconds 12 buckets 2 size 10 back 1 odds 5;"
            + "hand pace 1 spills 1;hand pace 3 spills 0;hand pace 2 spills 2;fire heat 20 grows 1;";

    public static void main(String[] args) {
        three();
        threeWrong();
        resting();
        emptied();
        alone();
        six();
        nobody();
        nothing();
        fires();
        CHECK.finish();
    }

    private static void three() {
        HandLine x = Check.told(THREE);
        CHECK.dueRow("holds of 0", s -> x.holds(0, s), 10, 10, 10, 10, -1, -1, -1, -1, 10, -1, -1, 10, -2);
        CHECK.dueRow("holds of 1", s -> x.holds(1, s), -1, 9, 9, 9, 9, 9, 9, -1, -1, 9, 9, 9, -2);
        CHECK.dueRow("holds of 2", s -> x.holds(2, s), -1, -1, -1, -1, 9, 9, -1, 9, 9, -1, -1, -1, -2);
        CHECK.dueRow("held of 0", s -> x.held(0, s), 1, 1, 1, 1, -1, -1, -1, -1, 1, -1, -1, 1, -2);
        CHECK.dueRow("held of 1", s -> x.held(1, s), -1, 1, 2, 3, 1, 2, 3, -1, -1, 1, 2, 3, -2);
        CHECK.dueRow("held of 2", s -> x.held(2, s), -1, -1, -1, -1, 1, 2, -1, 1, 2, -1, -1, -1, -2);
        CHECK.dueRow("busy", x::busy, 1, 3, 3, 3, 6, 6, 2, 4, 5, 2, 2, 3, -2);
        CHECK.dueRow("waits", x::waits, 0, 0, 1, 1, 0, 0, 0, 0, 0, 0, 0, 0, -2);
        CHECK.dueRow("stays", x::stays, 2, 0, 0, -2);
        CHECK.dueRow("idle", x::idle, 6, 3, 8, -2);
        CHECK.dueRow("river", x::river, 1, 0, 0, 0, 0, 0, 0, 0, 0, 0, 0, 0, -2);
        CHECK.dueRow("thrown", x::thrown, 0, 0, 0, 0, 0, 0, 1, 1, 1, 2, 2, 2, -2);
        CHECK.dueRow("water", x::water, 0, 0, 0, 0, 0, 0, 7, 7, 7, 14, 14, 14, -2);
        CHECK.dueRow("spilt", x::spilt, 0, 1, 1, 1, 2, 2, 4, 4, 4, 7, 7, 7, -2);
        CHECK.dueRow("fire", x::fire, 21, 22, 23, 24, 25, 26, 20, 21, 22, 16, 17, 18, -2);
        CHECK.due("out()", x.out(), -1);
        CHECK.due("worst()", x.worst(), 26);
        CHECK.dueRow("when", x::when, 6, 9, -1);
        CHECK.due("gap()", x.gap(), 6);
        CHECK.dueRow("ready", x::ready, 1, 1, 1, 3, 0, 4, 2, 0, 5, 0, 0, 3, -2);
        CHECK.due("crowded()", x.crowded(), 1);
        CHECK.dueRow("road", x::road, 0, 0, 0, 0, 0, 0, 1, 1, 0, 1, 1, 0, -2);
        CHECK.dueRow("left", x::left, 10, 19, 19, 19, 18, 18, 9, 9, 19, 9, 9, 19, -2);
        CHECK.due("full()", x.full(), 2);
        CHECK.dueRow("starts", x::starts, 0, 1, 4, -2);
        CHECK.dueRow("passes", x::passes, 3, 2, 2, -2);
        CHECK.dueRow("loses", x::loses, 3, 0, 4, -2);
        CHECK.due("lazy()", x.lazy(), 2);
        CHECK.due("queue()", x.queue(), 0);
        CHECK.due("until(0)", x.until(0), 0);
        CHECK.due("until(1)", x.until(1), 6);
        CHECK.due("until(7)", x.until(7), 6);
        CHECK.due("until(8)", x.until(8), 9);
        CHECK.due("until(14)", x.until(14), 9);
        CHECK.due("until(15)", x.until(15), -1);
    }

    private static void threeWrong() {
        HandLine x = Check.told(THREE);
        CHECK.due("holds(-1, 0)", x.holds(-1, 0), -2);
        CHECK.due("holds(3, 0)", x.holds(3, 0), -2);
        CHECK.due("holds(0, -1)", x.holds(0, -1), -2);
        CHECK.due("held(-1, 0)", x.held(-1, 0), -2);
        CHECK.due("held(3, 0)", x.held(3, 0), -2);
        CHECK.due("held(0, -1)", x.held(0, -1), -2);
        for (int s : new int[] {-1, 12, Integer.MIN_VALUE, Integer.MAX_VALUE}) {
            CHECK.due("busy", x.busy(s), -2);
            CHECK.due("waits", x.waits(s), -2);
            CHECK.due("river", x.river(s), -2);
            CHECK.due("thrown", x.thrown(s), -2);
            CHECK.due("water", x.water(s), -2);
            CHECK.due("spilt", x.spilt(s), -2);
            CHECK.due("fire", x.fire(s), -2);
            CHECK.due("ready", x.ready(s), -2);
            CHECK.due("road", x.road(s), -2);
            CHECK.due("left", x.left(s), -2);
            CHECK.due("stays", x.stays(s), -2);
            CHECK.due("idle", x.idle(s), -2);
            CHECK.due("starts", x.starts(s), -2);
            CHECK.due("passes", x.passes(s), -2);
            CHECK.due("loses", x.loses(s), -2);
        }
        CHECK.due("when(-1)", x.when(-1), -2);
        CHECK.due("when of the greatest", x.when(Integer.MAX_VALUE), -1);
        CHECK.due("until(-1)", x.until(-1), -2);
        CHECK.due("until of the greatest", x.until(Integer.MAX_VALUE), -1);
    }

    /** HAND 0 rests in SECONDS 1 and 2, then the last one in 8 and 9, ready to throw. */
    private static void resting() {
        HandLine x = Check.told(THREE);
        CHECK.due("rest(0, 1, 2)", x.rest(0, 1, 2), 2);
        CHECK.dueRow("held of 0", s -> x.held(0, s), 1, 1, 1, 1, 1, 1, -1, -1, -1, -1, 1);
        CHECK.dueRow("waits", x::waits, 0, 1, 1, 0, 1, 1, 0, 0, 0);
        CHECK.dueRow("when", x::when, 8, 11, -1);
        CHECK.due("starts(1)", x.starts(1), 3);
        CHECK.due("rest(2, 8, 2)", x.rest(2, 8, 2), 1);
        CHECK.dueRow("waits", x::waits, 0, 1, 1, 0, 1, 1, 0, 0, 4, 6, 0, 0);
        CHECK.dueRow("held of 2", s -> x.held(2, s), -1, -1, -1, -1, -1, -1, 1, 2, 2, 2, 1, 2);
        CHECK.dueRow("held of 1", s -> x.held(1, s), -1, -1, -1, 1, 2, 3, 1, 2, 3, 3, -1, -1);
        CHECK.due("when(0)", x.when(0), 10);
        CHECK.dueRow("stays", x::stays, 4, 1, 2);
        CHECK.due("queue()", x.queue(), 0);
        // A bucket that is not ready is held no longer by one who rests, and none is given to him.
        HandLine y = Check.told(THREE);
        y.rest(1, 1, 1);
        CHECK.dueRow("held of 0 then", s -> y.held(0, s), 1, 1, 1);
        CHECK.dueRow("held of 1 then", s -> y.held(1, s), -1, -1, 1);
        y.rest(1, 3, 2);
        CHECK.dueRow("held of 1 then", s -> y.held(1, s), -1, -1, 1, 1, 1, 2, 3, 1);
        CHECK.due("waits(1) then", y.waits(1), 1);
    }

    /** Buckets that are spilt to nothing: what is spilt is what was in them. */
    private static void emptied() {
        HandLine x = Check.told("brigade seconds 4 buckets 8 size 5 back 0 odds 0;"
                + "hand pace 1 spills 3;hand pace 1 spills 9;fire heat 1 grows 0;");
        CHECK.dueRow("holds of 1", s -> x.holds(1, s), -1, 2, 2, 2);
        CHECK.dueRow("thrown", x::thrown, 0, 0, 1, 2);
        CHECK.dueRow("water", x::water, 0, 0, 0, 0);
        CHECK.dueRow("spilt", x::spilt, 0, 3, 8, 13);
        CHECK.dueRow("loses", x::loses, 9, 4);
        CHECK.dueRow("fire", x::fire, 1, 1, 1, 1);
        CHECK.dueRow("river", x::river, 7, 6, 5, 5);
        CHECK.dueRow("road", x::road, 0, 0, 1, 1);
        CHECK.dueRow("idle", x::idle, 0, 1);
        CHECK.due("lazy()", x.lazy(), 1);
        CHECK.due("queue()", x.queue(), -1);
        HandLine y = Check.told("brigade seconds 2 buckets 1 size 1 back 0 odds 0;hand pace 1 spills 1;"
                + "hand pace 6 spills 9;");
        CHECK.dueRow("holds nothing but a bucket", s -> y.holds(1, s), -1, 0);
        CHECK.due("left(1)", y.left(1), 0);
    }

    /** One HAND alone, never idle: nobody is lazy. */
    private static void alone() {
        HandLine x = Check.told("brigade seconds 3 buckets 2 size 3 back 0 odds 0;hand pace 1 spills 0;");
        CHECK.due("lazy()", x.lazy(), -1);
        CHECK.dueRow("when", x::when, 1, 2, -1);
        CHECK.dueRow("river", x::river, 1, 0, 0);
        CHECK.dueRow("road", x::road, 0, 1, 1);
        CHECK.due("out() without fire", x.out(), 0);
        CHECK.due("worst() without fire", x.worst(), 0);
        CHECK.due("gap()", x.gap(), 1);
        HandLine late = Check.told("brigade seconds 6 buckets 1 size 3 back 20 odds 0;hand pace 2 spills 0;"
                + "hand pace 1 spills 0;hand pace 1 spills 0;hand pace 6 spills 0;");
        CHECK.dueRow("starts", late::starts, 0, 2, 3, 4);
        CHECK.due("gap()", late.gap(), 6);
        HandLine later = Check.told("brigade seconds 6 buckets 1 size 3 back 20 odds 0;hand pace 1 spills 0;");
        CHECK.dueRow("road", later::road, 0, 1, 1, 1, 1, 1);
        CHECK.due("gap() at the end", later.gap(), 4);
        CHECK.due("lazy()", later.lazy(), 0);
        HandLine ties = Check.told("brigade seconds 1 buckets 1 size 3 back 20 odds 0;hand pace 1 spills 0;"
                + "hand pace 1 spills 0;hand pace 1 spills 0;");
        CHECK.due("lazy(), the first of two", ties.lazy(), 1);
        CHECK.due("starts(2)", ties.starts(2), -1);
        HandLine last = Check.told("brigade seconds 2 buckets 8 size 3 back 0 odds 0;hand pace 1 spills 0;"
                + "hand pace 2 spills 0;");
        CHECK.due("until(0) at first", last.until(0), 0);
        CHECK.due("crowded(), the last SECOND", last.crowded(), 1);
        HandLine once = Check.told("brigade seconds 3 buckets 8 size 3 back 0 odds 0;hand pace 1 spills 0;"
                + "hand pace 2 spills 0;");
        CHECK.due("stays(0), once", once.stays(0), 1);
        CHECK.due("queue(), once", once.queue(), 0);
        HandLine water = Check.told("brigade seconds 3 buckets 8 size 3 back 0 odds 0;hand pace 1 spills 0;");
        CHECK.due("until(4) at first", water.until(4), 2);
        HandLine queues = Check.told("brigade seconds 6 buckets 8 size 3 back 0 odds 0;hand pace 1 spills 0;"
                + "hand pace 1 spills 0;hand pace 6 spills 0;");
        CHECK.dueRow("waits", queues::waits, 0, 0, 0, 3, 3, 3);
        CHECK.due("queue(), the first of two", queues.queue(), 0);
        CHECK.due("full()", queues.full(), 3);
        CHECK.due("crowded()", queues.crowded(), 2);
    }

    private static void six() {
        HandLine x = Check.told("brigade seconds 9 buckets 8 size 30 back 0 odds 0;"
                + "hand pace 1 spills 1;".repeat(6));
        CHECK.dueRow("when", x::when, 6, 7, 8, -1);
        CHECK.dueRow("passes", x::passes, 8, 7, 6, 5, 4, 3, -2);
        CHECK.dueRow("loses", x::loses, 8, 7, 6, 5, 4, 3, -2);
        CHECK.due("spilt(8)", x.spilt(8), 33);
        CHECK.due("water(8)", x.water(8), 72);
        CHECK.dueRow("holds", h -> x.holds(h, 8), 30, 29, 28, 27, 26, 25, -2);
        CHECK.due("full()", x.full(), 6);
        CHECK.due("crowded()", x.crowded(), 5);
        HandLine y = Check.told("brigade seconds 12 buckets 8 size 5 back 0 odds 0;"
                + "hand pace 6 spills 0;".repeat(3));
        CHECK.dueRow("starts, too late", y::starts, 0, 6, -1, -2);
        HandLine z = Check.told("brigade seconds 30 buckets 1 size 5 back 20 odds 0;hand pace 6 spills 0;");
        CHECK.due("until(5)", z.until(5), 6);
        CHECK.due("until(6), too late", z.until(6), -1);
        CHECK.due("when(1), too late", z.when(1), -1);
    }

    private static void nobody() {
        HandLine x = Check.told("brigade seconds 4 buckets 3 size 1 back 0 odds 5;");
        CHECK.due("thrown(3)", x.thrown(3), 0);
        CHECK.due("water(3)", x.water(3), 0);
        CHECK.due("busy(0)", x.busy(0), 0);
        CHECK.due("river(3)", x.river(3), 3);
        CHECK.due("road(3)", x.road(3), 0);
        CHECK.due("left(3)", x.left(3), 0);
        CHECK.due("gap()", x.gap(), 4);
        CHECK.due("full()", x.full(), 0);
        CHECK.due("crowded()", x.crowded(), 0);
        CHECK.due("lazy()", x.lazy(), -1);
        CHECK.due("queue()", x.queue(), -1);
        CHECK.due("out()", x.out(), 0);
        CHECK.due("when(0)", x.when(0), -1);
        CHECK.due("until(0)", x.until(0), 0);
        CHECK.due("until(1)", x.until(1), -1);
        CHECK.due("holds(0, 0)", x.holds(0, 0), -2);
    }

    private static void nothing() {
        HandLine x = new HandLine();
        CHECK.due("out()", x.out(), -2);
        CHECK.due("worst()", x.worst(), -2);
        CHECK.due("when(0)", x.when(0), -2);
        CHECK.due("gap()", x.gap(), -2);
        CHECK.due("crowded()", x.crowded(), -2);
        CHECK.due("full()", x.full(), -2);
        CHECK.due("lazy()", x.lazy(), -2);
        CHECK.due("queue()", x.queue(), -2);
        CHECK.due("until(0)", x.until(0), -2);
        CHECK.due("busy(0)", x.busy(0), -2);
        CHECK.due("water(0)", x.water(0), -2);
        CHECK.due("left(0)", x.left(0), -2);
    }

    /** OUT when just nothing is left of it, and for good though it grows. */
    private static void fires() {
        String line = "brigade seconds 5 buckets 8 size 5 back 0 odds 0;hand pace 1 spills 0;";
        HandLine x = Check.told(line + "fire heat 999 grows 0;fire heat 7 grows 3;");
        CHECK.dueRow("fire", x::fire, 10, 8, 6, 4, 0);
        CHECK.due("out()", x.out(), 4);
        CHECK.due("worst()", x.worst(), 10);
        HandLine y = Check.told(line + "fire heat 5 grows 0;");
        CHECK.dueRow("fire", y::fire, 5, 0, 0, 0, 0);
        CHECK.due("out()", y.out(), 1);
        HandLine z = Check.told(line + "fire heat 6 grows 9;");
        CHECK.dueRow("fire", z::fire, 15, 19, 23, 27, 31);
        CHECK.due("out()", z.out(), -1);
        CHECK.due("worst()", z.worst(), 31);
        HandLine w = Check.told(line + "fire heat 1 grows 4;");
        CHECK.dueRow("fire, OUT for good", w::fire, 5, 0, 0, 0, 0);
    }
}
