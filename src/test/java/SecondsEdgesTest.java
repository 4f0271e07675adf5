/** The edges that Terms II and III and promises 9 to 33 and 35 name, each sentence by itself. */
public final class SecondsEdgesTest {
    private static final Check CHECK = new Check();

    public static void main(String[] args) {
        oneSecond();
        sixtySeconds();
        sixtySecondsOverall();
        pacesBounds();
        givesOnlyToOneWhoHasNone();
        doesNotGiveToOneWhoRests();
        doesNotGiveWhoRests();
        restsAtTheRiver();
        restsHoldNoLonger();
        spillsNothingBelowNothing();
        comesBackInTime();
        firesJustOut();
        firesThatGrow();
        noFire();
        emptyOrNone();
        waitsOrTakesAnother();
        firstOfSeveral();
        noneAboveNothing();
        whenAndUntil();
        gaps();
        crowds();
        startsOrNot();
        noHands();
        CHECK.finish();
    }

    private static String first(int seconds, int buckets, int size, int back) {
        return "brigade seconds " + seconds + " buckets " + buckets + " size " + size + " back " + back
                + " odds 0;";
    }

    private static String hand(int pace, int spills) {
        return "hand pace " + pace + " spills " + spills + ";";
    }

    private static String fire(int heat, int grows) {
        return "fire heat " + heat + " grows " + grows + ";";
    }

    /** The least of everything: a bucket is taken in SECOND 0, and that is all. */
    private static void oneSecond() {
        HandLine x = Check.told(first(1, 1, 1, 0) + hand(1, 0));
        CHECK.dueRow("holds", s -> x.holds(0, s), 1, -2);
        CHECK.dueRow("held", s -> x.held(0, s), 1, -2);
        CHECK.dueRow("busy", x::busy, 1, -2);
        CHECK.dueRow("waits", x::waits, 0, -2);
        CHECK.dueRow("stays", x::stays, 0, -2);
        CHECK.dueRow("idle", x::idle, 0, -2);
        CHECK.dueRow("river", x::river, 0, -2);
        CHECK.dueRow("thrown", x::thrown, 0, -2);
        CHECK.dueRow("water", x::water, 0, -2);
        CHECK.dueRow("spilt", x::spilt, 0, -2);
        CHECK.dueRow("fire", x::fire, 0, -2);
        CHECK.dueRow("ready", x::ready, 1, -2);
        CHECK.dueRow("road", x::road, 0, -2);
        CHECK.dueRow("left", x::left, 1, -2);
        CHECK.dueRow("starts", x::starts, 0, -2);
        CHECK.dueRow("passes", x::passes, 0, -2);
        CHECK.dueRow("loses", x::loses, 0, -2);
        CHECK.due("when(0)", x.when(0), -1);
        CHECK.due("gap()", x.gap(), 1);
        CHECK.due("full()", x.full(), 1);
        CHECK.due("crowded()", x.crowded(), 0);
        CHECK.due("lazy()", x.lazy(), -1);
        CHECK.due("queue()", x.queue(), -1);
    }

    private static HandLine greatest() {
        return Check.told(first(60, 8, 30, 20) + hand(6, 9).repeat(6) + fire(999, 9));
    }

    /**
     * The greatest of everything. A bucket is taken in 0, 6, .., 42, and as none is left then, in 57, when the one
     * thrown in 36 is back; they go on each 6 SECONDS, and are thrown in 36, 42, 48, 54, empty.
     */
    private static void sixtySeconds() {
        HandLine x = greatest();
        CHECK.due("holds(0, 47)", x.holds(0, 47), 30);
        CHECK.due("holds(0, 48)", x.holds(0, 48), -1);
        CHECK.due("holds(0, 56)", x.holds(0, 56), -1);
        CHECK.due("holds(0, 57)", x.holds(0, 57), 30);
        CHECK.due("holds(0, 59)", x.holds(0, 59), 30);
        CHECK.due("holds(0, 60)", x.holds(0, 60), -2);
        CHECK.due("held(0, 59)", x.held(0, 59), 3);
        CHECK.due("held(5, 59)", x.held(5, 59), 6);
        CHECK.due("held(5, 60)", x.held(5, 60), -2);
        CHECK.due("held(6, 59)", x.held(6, 59), -2);
        CHECK.dueRow("holds in 35", h -> x.holds(h, 35), 30, 21, 12, 3, 0, 0, -2);
        CHECK.due("busy(29)", x.busy(29), 31);
        CHECK.due("busy(30)", x.busy(30), 63);
        CHECK.due("busy(59)", x.busy(59), 61);
        CHECK.due("busy(60)", x.busy(60), -2);
        CHECK.due("waits(59)", x.waits(59), 0);
        CHECK.due("waits(60)", x.waits(60), -2);
        CHECK.due("ready(35)", x.ready(35), 63);
        CHECK.due("ready(36)", x.ready(36), 0);
        CHECK.due("ready(59)", x.ready(59), 60);
        CHECK.due("ready(60)", x.ready(60), -2);
        CHECK.due("river(0)", x.river(0), 7);
        CHECK.due("river(41)", x.river(41), 1);
        CHECK.due("river(42)", x.river(42), 0);
        CHECK.due("river(59)", x.river(59), 0);
        CHECK.due("river(60)", x.river(60), -2);
        CHECK.due("road(35)", x.road(35), 0);
        CHECK.due("road(36)", x.road(36), 1);
        CHECK.due("road(56)", x.road(56), 4);
        CHECK.due("road(57)", x.road(57), 3);
        CHECK.due("road(59)", x.road(59), 3);
        CHECK.due("road(60)", x.road(60), -2);
        CHECK.due("thrown(35)", x.thrown(35), 0);
        CHECK.due("thrown(36)", x.thrown(36), 1);
        CHECK.due("thrown(59)", x.thrown(59), 4);
        CHECK.due("thrown(60)", x.thrown(60), -2);
        CHECK.due("water(59)", x.water(59), 0);
        CHECK.due("water(60)", x.water(60), -2);
        CHECK.due("spilt(59)", x.spilt(59), 72 + 72 + 63 + 18);
        CHECK.due("spilt(60)", x.spilt(60), -2);
        CHECK.due("fire(0)", x.fire(0), 1008);
        CHECK.due("fire(59)", x.fire(59), 1539);
        CHECK.due("fire(60)", x.fire(60), -2);
        CHECK.due("left(35)", x.left(35), 66);
        CHECK.due("left(60)", x.left(60), -2);
    }

    private static void sixtySecondsOverall() {
        HandLine x = greatest();
        CHECK.dueRow("idle", x::idle, 9, 12, 12, 18, 24, 30, -2);
        CHECK.dueRow("stays", x::stays, 0, 0, 0, 0, 0, 0, -2);
        CHECK.dueRow("starts", x::starts, 0, 6, 12, 18, 24, 30, -2);
        CHECK.dueRow("passes", x::passes, 8, 8, 7, 6, 5, 4, -2);
        CHECK.dueRow("loses", x::loses, 72, 72, 63, 18, 0, 0, -2);
        CHECK.dueRow("when", x::when, 36, 42, 48, 54, -1);
        CHECK.due("out()", x.out(), -1);
        CHECK.due("worst()", x.worst(), 1539);
        CHECK.due("gap()", x.gap(), 36);
        CHECK.due("full()", x.full(), 6);
        CHECK.due("crowded()", x.crowded(), 30);
        CHECK.due("lazy()", x.lazy(), 5);
        CHECK.due("queue()", x.queue(), -1);
        CHECK.due("until(0)", x.until(0), 0);
        CHECK.due("until(1)", x.until(1), -1);
    }

    /** A bucket taken in 0 is ready at the end of pace less 1, and thrown in the SECOND of the pace. */
    private static void pacesBounds() {
        for (int pace = 1; pace <= 6; pace++) {
            HandLine x = Check.told(first(8, 1, 1, 20) + hand(pace, 0));
            CHECK.due("held, pace " + pace, x.held(0, pace - 1), pace);
            CHECK.due("ready, pace " + pace, x.ready(pace - 1), 1);
            CHECK.due("not ready ahead, pace " + pace, pace == 1 ? 0 : x.ready(pace - 2), 0);
            CHECK.due("held, pace " + pace + ", behind", x.held(0, pace), -1);
            CHECK.due("ready, pace " + pace + ", behind", x.ready(pace), 0);
            CHECK.due("when, pace " + pace, x.when(0), pace);
            CHECK.due("waits, pace " + pace, x.waits(pace), 0);
        }
    }

    /** HAND 1 of pace 6 gets one in 1 and throws it in 7: till then HAND 0 waits, his pace at most. */
    private static void givesOnlyToOneWhoHasNone() {
        HandLine x = Check.told(first(10, 8, 1, 0) + hand(1, 0) + hand(6, 0));
        CHECK.dueRow("waits", x::waits, 0, 0, 1, 1, 1, 1, 1, 0, 1, 1, -2);
        CHECK.dueRow("held of 0, his pace at most", s -> x.held(0, s), 1, 1, 1, 1, 1, 1, 1, 1, 1, 1, -2);
        CHECK.dueRow("held of 1", s -> x.held(1, s), -1, 1, 2, 3, 4, 5, 6, 1, 2, 3, -2);
        CHECK.due("stays(0)", x.stays(0), 7);
        CHECK.due("stays(1)", x.stays(1), 0);
        CHECK.due("passes(0)", x.passes(0), 2);
        // In 7 it is given to a HAND who threw his own in it.
        CHECK.due("thrown(7)", x.thrown(7), 1);
        CHECK.due("busy(7)", x.busy(7), 3);
    }

    private static void doesNotGiveToOneWhoRests() {
        HandLine x = Check.told(first(6, 8, 1, 0) + hand(1, 0) + hand(1, 0));
        CHECK.due("rest(1, 1, 2)", x.rest(1, 1, 2), 2);
        CHECK.dueRow("waits", x::waits, 0, 1, 1, 0, 0, 0);
        CHECK.dueRow("busy", x::busy, 1, 1, 1, 3, 3, 3);
        // The SECOND ahead of the rest and the one behind it are no rests.
        CHECK.due("starts(1)", x.starts(1), 3);
        x.anew();
        x.rest(1, 2, 1);
        CHECK.dueRow("held of 1, who rests in 2", s -> x.held(1, s), -1, 1, 1, 1, 1, 1);
        CHECK.dueRow("when", x::when, 3, 4, 5, -1);
        CHECK.due("waits(2), both", x.waits(2), 3);
    }

    private static void doesNotGiveWhoRests() {
        HandLine x = Check.told(first(6, 8, 1, 0) + hand(1, 0) + hand(1, 0));
        x.rest(0, 1, 1);
        CHECK.dueRow("starts, HAND 0 rests in 1", x::starts, 0, 2);
        CHECK.due("waits(1)", x.waits(1), 1);
        x.anew();
        x.rest(1, 5, 1);
        CHECK.dueRow("when, HAND 1 rests in the last SECOND", x::when, 2, 3, 4, -1);
        CHECK.due("waits(5)", x.waits(5), 3);
        CHECK.due("waits(4)", x.waits(4), 0);
    }

    private static void restsAtTheRiver() {
        HandLine x = Check.told(first(6, 8, 1, 0) + hand(1, 0));
        x.rest(0, 0, 3);
        CHECK.dueRow("busy", x::busy, 0, 0, 0, 1, 1, 1);
        CHECK.due("starts(0)", x.starts(0), 3);
        CHECK.due("river(2)", x.river(2), 8);
        CHECK.due("river(3)", x.river(3), 7);
        CHECK.due("idle(0)", x.idle(0), 3);
        CHECK.due("lazy()", x.lazy(), 0);
        x.rest(0, 3, 3);
        CHECK.due("starts(0), in no SECOND", x.starts(0), -1);
        CHECK.due("idle(0), in all", x.idle(0), 6);
        CHECK.due("full()", x.full(), 0);
        CHECK.due("crowded()", x.crowded(), 0);
    }

    private static void restsHoldNoLonger() {
        HandLine x = Check.told(first(9, 1, 1, 20) + hand(3, 0));
        x.rest(0, 1, 1);
        CHECK.dueRow("held", s -> x.held(0, s), 1, 1, 2, 3, -1);
        x.anew();
        x.rest(0, 3, 2);
        CHECK.dueRow("held, ready", s -> x.held(0, s), 1, 2, 3, 3, 3, -1);
        CHECK.dueRow("ready", x::ready, 0, 0, 1, 1, 1, 0);
        CHECK.dueRow("waits", x::waits, 0, 0, 0, 1, 1, 0);
        x.anew();
        x.rest(0, 1, 9);
        CHECK.dueRow("held, to the end", s -> x.held(0, s), 1, 1, 1, 1, 1, 1, 1, 1, 1, -2);
    }

    private static void spillsNothingBelowNothing() {
        HandLine just = Check.told(first(5, 1, 9, 20) + hand(1, 4) + hand(1, 5) + hand(1, 1));
        CHECK.due("holds(1, 1)", just.holds(1, 1), 5);
        CHECK.due("holds(2, 2), just nothing", just.holds(2, 2), 0);
        CHECK.dueRow("spilt", just::spilt, 0, 4, 9, 9, 9);
        CHECK.dueRow("loses", just::loses, 4, 5, 0);
        CHECK.due("water(3)", just.water(3), 0);
        CHECK.due("thrown(3)", just.thrown(3), 1);
        HandLine more = Check.told(first(5, 1, 8, 20) + hand(1, 4) + hand(1, 5) + hand(1, 0));
        CHECK.due("holds(2, 2), not below", more.holds(2, 2), 0);
        CHECK.dueRow("spilt", more::spilt, 0, 4, 8, 8, 8);
        CHECK.dueRow("loses", more::loses, 4, 4, 0);
        HandLine less = Check.told(first(5, 1, 10, 20) + hand(1, 4) + hand(1, 5) + hand(1, 0));
        CHECK.due("holds(2, 2), one left", less.holds(2, 2), 1);
        CHECK.due("water(3), one left", less.water(3), 1);
        CHECK.due("water(4), no more", less.water(4), 1);
    }

    /** One bucket, pace 1: thrown in 1, and taken again in 2 and back. */
    private static void comesBackInTime() {
        for (int back = 0; back <= 20; back++) {
            HandLine x = Check.told(first(30, 1, 1, back) + hand(1, 0));
            CHECK.due("road, thrown, back " + back, x.road(1), 1);
            CHECK.due("river, thrown, back " + back, x.river(1), 0);
            CHECK.due("road, the last SECOND, back " + back, x.road(1 + back), 1);
            CHECK.due("road, taken, back " + back, x.road(2 + back), 0);
            CHECK.due("holds, not yet, back " + back, x.holds(0, 1 + back), -1);
            CHECK.due("holds, taken, back " + back, x.holds(0, 2 + back), 1);
            CHECK.due("when(1), back " + back, x.when(1), 3 + back);
        }
        // Nobody takes it: it is at the river then.
        HandLine y = Check.told(first(9, 1, 1, 3) + hand(1, 0));
        y.rest(0, 2, 7);
        CHECK.dueRow("river", y::river, 0, 0, 0, 0, 0, 1, 1, 1, 1);
        CHECK.dueRow("road", y::road, 0, 1, 1, 1, 1, 0, 0, 0, 0);
    }

    /** Thrown in 1, 2, 3, .. are 5 each. */
    private static void firesJustOut() {
        String line = first(4, 8, 5, 0) + hand(1, 0);
        HandLine just = Check.told(line + fire(10, 0));
        CHECK.dueRow("fire, just nothing left", just::fire, 10, 5, 0, 0, -2);
        CHECK.due("out()", just.out(), 2);
        CHECK.due("worst()", just.worst(), 10);
        HandLine more = Check.told(line + fire(11, 0));
        CHECK.dueRow("fire, one left", more::fire, 11, 6, 1, 0, -2);
        CHECK.due("out(), in the last SECOND", more.out(), 3);
        HandLine less = Check.told(line + fire(9, 0));
        CHECK.dueRow("fire, none below", less::fire, 9, 4, 0, 0, -2);
        CHECK.due("out()", Check.told(line + fire(15, 0)).out(), 3);
        CHECK.due("out(), in no SECOND", Check.told(line + fire(16, 0)).out(), -1);
        CHECK.due("fire(3), one left", Check.told(line + fire(16, 0)).fire(3), 1);
    }

    private static void firesThatGrow() {
        String line = first(4, 8, 5, 0) + hand(1, 0);
        HandLine x = Check.told(line + fire(1, 4));
        CHECK.dueRow("fire, OUT for good", x::fire, 5, 0, 0, 0);
        CHECK.due("out()", x.out(), 1);
        CHECK.due("worst()", x.worst(), 5);
        HandLine y = Check.told(line + fire(2, 4));
        CHECK.dueRow("fire, one left grows", y::fire, 6, 5, 0, 0);
        CHECK.due("out()", y.out(), 2);
        HandLine z = Check.told(line + fire(1, 5));
        CHECK.dueRow("fire, as much as grows", z::fire, 6, 6, 6, 6);
        CHECK.due("out()", z.out(), -1);
        CHECK.due("worst()", z.worst(), 6);
        HandLine w = Check.told(line + fire(9, 3));
        CHECK.due("worst(), not at the end", w.worst(), 12);
        CHECK.due("fire(3)", w.fire(3), 6);
    }

    private static void noFire() {
        HandLine x = Check.told(first(4, 8, 5, 0) + hand(1, 0));
        CHECK.dueRow("fire", x::fire, 0, 0, 0, 0, -2);
        CHECK.due("out()", x.out(), 0);
        CHECK.due("worst()", x.worst(), 0);
    }

    private static void emptyOrNone() {
        HandLine x = Check.told(first(3, 1, 1, 20) + hand(1, 1) + hand(1, 0));
        CHECK.dueRow("holds of 1: none, nothing, none", s -> x.holds(1, s), -1, 0, -1, -2);
        CHECK.dueRow("held of 1", s -> x.held(1, s), -1, 1, -1, -2);
        CHECK.dueRow("left", x::left, 1, 0, 0, -2);
        CHECK.dueRow("busy", x::busy, 1, 2, 0, -2);
    }

    /** Who throws his ready bucket and takes another one does not wait, though he has one still. */
    private static void waitsOrTakesAnother() {
        HandLine x = Check.told(first(5, 8, 1, 0) + hand(1, 0));
        CHECK.dueRow("waits", x::waits, 0, 0, 0, 0, 0, -2);
        CHECK.dueRow("busy", x::busy, 1, 1, 1, 1, 1, -2);
        CHECK.dueRow("ready", x::ready, 1, 1, 1, 1, 1, -2);
        CHECK.due("stays(0)", x.stays(0), 0);
        CHECK.due("passes(0)", x.passes(0), 4);
        // Ready in the last SECOND's end alone: he does not wait at it.
        HandLine y = Check.told(first(3, 8, 1, 0) + hand(3, 0));
        CHECK.due("ready(2)", y.ready(2), 1);
        CHECK.due("waits(2)", y.waits(2), 0);
    }

    private static void firstOfSeveral() {
        HandLine x = Check.told(first(3, 1, 1, 20) + hand(6, 0).repeat(4));
        CHECK.dueRow("idle", x::idle, 0, 3, 3, 3);
        CHECK.due("lazy(), the first of three", x.lazy(), 1);
        // All of six wait behind a last one who rests.
        HandLine y = Check.told(first(9, 8, 1, 0) + hand(1, 0).repeat(6));
        y.rest(5, 7, 2);
        CHECK.dueRow("stays", y::stays, 2, 2, 2, 2, 2, 2, -2);
        CHECK.due("queue(), the first of six", y.queue(), 0);
        y.rest(5, 6, 1);
        CHECK.dueRow("stays", y::stays, 3, 3, 3, 3, 3, 3, -2);
        HandLine z = Check.told(first(4, 8, 1, 0) + hand(1, 0).repeat(3));
        z.rest(2, 2, 2);
        // HAND 1 can't give in 2 and 3, HAND 0 can't either.
        CHECK.dueRow("stays", z::stays, 2, 2, 0);
        CHECK.due("queue(), the first of two", z.queue(), 0);
        z.rest(1, 1, 1);
        CHECK.dueRow("stays", z::stays, 2, 1, 0);
        HandLine w = Check.told(first(4, 1, 1, 20) + hand(1, 0) + hand(1, 0));
        w.rest(1, 2, 2);
        CHECK.dueRow("stays, not the first one", w::stays, 0, 2);
        CHECK.due("queue(), not the first one", w.queue(), 1);
    }

    private static void noneAboveNothing() {
        HandLine x = Check.told(first(5, 8, 1, 0) + hand(1, 0));
        CHECK.due("lazy(), never idle", x.lazy(), -1);
        CHECK.due("queue(), never waits", x.queue(), -1);
        HandLine y = Check.told(first(2, 8, 1, 0) + hand(1, 0) + hand(1, 0));
        CHECK.due("idle(1), once", y.idle(1), 1);
        CHECK.due("lazy(), once", y.lazy(), 1);
        HandLine z = Check.told(first(2, 8, 1, 0) + hand(1, 0));
        z.rest(0, 1, 1);
        CHECK.due("stays(0), once", z.stays(0), 1);
        CHECK.due("queue(), once", z.queue(), 0);
    }

    private static void whenAndUntil() {
        HandLine x = Check.told(first(60, 8, 30, 0) + hand(1, 0));
        CHECK.due("when(0)", x.when(0), 1);
        CHECK.due("when(58), the last one", x.when(58), 59);
        CHECK.due("when(59)", x.when(59), -1);
        CHECK.due("when of the greatest", x.when(Integer.MAX_VALUE), -1);
        CHECK.due("when(-1)", x.when(-1), -2);
        CHECK.due("when of the least", x.when(Integer.MIN_VALUE), -2);
        CHECK.due("until(0)", x.until(0), 0);
        CHECK.due("until(1)", x.until(1), 1);
        CHECK.due("until(30)", x.until(30), 1);
        CHECK.due("until(31)", x.until(31), 2);
        CHECK.due("until(1770), the last SECOND", x.until(1770), 59);
        CHECK.due("until(1771)", x.until(1771), -1);
        CHECK.due("until of the greatest", x.until(Integer.MAX_VALUE), -1);
        CHECK.due("until(-1)", x.until(-1), -2);
        CHECK.due("until of the least", x.until(Integer.MIN_VALUE), -2);
    }

    private static void gaps() {
        CHECK.due("gap() at first", Check.told(first(60, 8, 1, 0) + hand(6, 0)).gap(), 6);
        CHECK.due("gap() between", Check.told(first(60, 1, 1, 20) + hand(6, 0)).gap(), 26);
        CHECK.due("gap() at last", Check.told(first(20, 1, 1, 20) + hand(1, 0)).gap(), 18);
        CHECK.due("gap() of all", Check.told(first(6, 8, 1, 0) + hand(6, 0)).gap(), 6);
        CHECK.due("gap() of one", Check.told(first(2, 8, 1, 0) + hand(1, 0)).gap(), 1);
        CHECK.due("gap() of all sixty", Check.told(first(60, 8, 1, 0)).gap(), 60);
    }

    private static void crowds() {
        HandLine x = Check.told(first(4, 8, 1, 0) + hand(1, 0) + hand(1, 0) + hand(1, 0));
        CHECK.due("full()", x.full(), 3);
        CHECK.due("crowded(), the first", x.crowded(), 2);
        HandLine y = Check.told(first(3, 8, 1, 0) + hand(1, 0) + hand(1, 0) + hand(1, 0));
        CHECK.due("crowded(), in the last SECOND", y.crowded(), 2);
        HandLine z = Check.told(first(9, 1, 1, 0) + hand(1, 0) + hand(1, 0) + hand(1, 0));
        CHECK.due("full(), one bucket", z.full(), 1);
        CHECK.due("crowded(), one bucket", z.crowded(), 0);
    }

    private static void startsOrNot() {
        HandLine x = Check.told(first(13, 8, 1, 0) + hand(6, 0) + hand(6, 0) + hand(6, 0));
        CHECK.dueRow("starts, in the last SECOND", x::starts, 0, 6, 12, -2);
        HandLine y = Check.told(first(12, 8, 1, 0) + hand(6, 0) + hand(6, 0) + hand(6, 0));
        CHECK.dueRow("starts, one too late", y::starts, 0, 6, -1, -2);
    }

    private static void noHands() {
        HandLine x = Check.told(first(60, 8, 30, 20) + fire(999, 9));
        for (int s : new int[] {0, 59}) {
            CHECK.due("busy", x.busy(s), 0);
            CHECK.due("waits", x.waits(s), 0);
            CHECK.due("ready", x.ready(s), 0);
            CHECK.due("river", x.river(s), 8);
            CHECK.due("road", x.road(s), 0);
            CHECK.due("thrown", x.thrown(s), 0);
            CHECK.due("water", x.water(s), 0);
            CHECK.due("spilt", x.spilt(s), 0);
            CHECK.due("left", x.left(s), 0);
            CHECK.due("fire", x.fire(s), 1008 + 9 * s);
            CHECK.due("holds", x.holds(0, s), -2);
            CHECK.due("held", x.held(0, s), -2);
        }
        CHECK.due("river(60)", x.river(60), -2);
        CHECK.due("starts(0)", x.starts(0), -2);
        CHECK.due("passes(0)", x.passes(0), -2);
        CHECK.due("loses(0)", x.loses(0), -2);
        CHECK.due("stays(0)", x.stays(0), -2);
        CHECK.due("idle(0)", x.idle(0), -2);
        CHECK.due("lazy()", x.lazy(), -1);
        CHECK.due("queue()", x.queue(), -1);
        CHECK.due("full()", x.full(), 0);
        CHECK.due("crowded()", x.crowded(), 0);
        CHECK.due("gap()", x.gap(), 60);
        CHECK.due("out()", x.out(), -1);
        CHECK.due("worst()", x.worst(), 1539);
    }
}
