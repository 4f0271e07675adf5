/** The edges that promises 63 to 66, 69, 71 and 72 name, each sentence by itself. */
public final class ActsEdgesTest {
    private static final int LEAST = Integer.MIN_VALUE;
    private static final int GREATEST = Integer.MAX_VALUE;
    private static final Check CHECK = new Check();

    public static void main(String[] args) {
        restsOfOneToNine();
        restsInTheFirstSecondAndTheLast();
        restsBeyondTheLastSecond();
        restsThatMeet();
        noSuchRest();
        pacesOfOneToSix();
        pacesFromSecondNothing();
        noSuchPace();
        thirtyActs();
        undoToNone();
        undoOfEachKind();
        anewOfAll();
        fillsOfOneToThirty();
        fillsWithActs();
        noSuchFill();
        imagesOfThree();
        imageOfNoBrigade();
        imageKeepsActs();
        imageStaysAsItWasKept();
        backToNothing();
        backLeavesTheRest();
        noSuchImage();
        noBrigade();
        noHands();
        CHECK.finish();
    }

    /** Many buckets, pace 1: one is thrown in each SECOND from 1 on. */
    private static HandLine one(int seconds) {
        return Check.told("brigade seconds " + seconds + " buckets 8 size 9 back 0 odds 0;hand pace 1 spills 0;");
    }

    private static HandLine two(String more) {
        return Check.told("brigade seconds 12 buckets 2 size 10 back 1 odds 5;hand pace 1 spills 1;"
                + "hand pace 3 spills 0;" + more);
    }

    private static void restsOfOneToNine() {
        for (int n = 1; n <= 9; n++) {
            HandLine x = one(12);
            CHECK.due("rest(0, 2, " + n + ")", x.rest(0, 2, n), 11 - n);
            CHECK.due("when(0)", x.when(0), 1);
            CHECK.due("when(1), behind the rest", x.when(1), 2 + n);
            CHECK.due("stays(0)", x.stays(0), n);
            CHECK.due("count(9)", x.count(9), 1);
        }
    }

    private static void restsInTheFirstSecondAndTheLast() {
        HandLine x = one(60);
        CHECK.due("rest(0, 0, 1)", x.rest(0, 0, 1), 58);
        CHECK.due("starts(0)", x.starts(0), 1);
        CHECK.due("rest(0, 59, 1)", x.rest(0, 59, 1), 57);
        CHECK.due("waits(59)", x.waits(59), 1);
        CHECK.due("waits(58)", x.waits(58), 0);
        CHECK.due("rest(0, 60, 1)", x.rest(0, 60, 1), -2);
        HandLine y = one(1);
        CHECK.due("rest(0, 0, 9) of one SECOND", y.rest(0, 0, 9), 0);
        CHECK.due("busy(0)", y.busy(0), 0);
        CHECK.due("rest(0, 1, 1) of one SECOND", y.rest(0, 1, 1), -2);
    }

    private static void restsBeyondTheLastSecond() {
        HandLine x = one(60);
        CHECK.due("rest(0, 51, 9), to the last one", x.rest(0, 51, 9), 50);
        x.undo();
        CHECK.due("rest(0, 52, 9), one beyond", x.rest(0, 52, 9), 51);
        x.undo();
        CHECK.due("rest(0, 59, 9), eight beyond", x.rest(0, 59, 9), 58);
        CHECK.due("starts(0), SECOND 0 is none of them", x.starts(0), 0);
        CHECK.due("when(0)", x.when(0), 1);
    }

    private static void restsThatMeet() {
        HandLine x = one(12);
        CHECK.due("rest(0, 2, 3)", x.rest(0, 2, 3), 8);
        CHECK.due("rest(0, 5, 2), just behind", x.rest(0, 5, 2), 6);
        CHECK.due("rest(0, 4, 2), within", x.rest(0, 4, 2), 6);
        CHECK.due("rest(0, 2, 3), the same", x.rest(0, 2, 3), 6);
        CHECK.due("count(9)", x.count(9), 4);
        CHECK.due("undo()", x.undo(), 3);
        CHECK.due("thrown(11)", x.thrown(11), 6);
        CHECK.due("undo()", x.undo(), 2);
        CHECK.due("thrown(11)", x.thrown(11), 6);
        CHECK.due("undo()", x.undo(), 1);
        CHECK.due("thrown(11)", x.thrown(11), 8);
        CHECK.due("undo()", x.undo(), 0);
        CHECK.due("thrown(11)", x.thrown(11), 11);
    }

    private static void noSuchRest() {
        HandLine x = two("");
        for (int n : new int[] {-1, 0, 10, GREATEST, LEAST}) {
            CHECK.due("rest(0, 0, " + n + ")", x.rest(0, 0, n), -2);
        }
        for (int second : new int[] {-1, 12, 60, GREATEST, LEAST}) {
            CHECK.due("rest(0, " + second + ", 1)", x.rest(0, second, 1), -2);
        }
        for (int hand : new int[] {-1, 2, 6, GREATEST, LEAST}) {
            CHECK.due("rest(" + hand + ", 0, 1)", x.rest(hand, 0, 1), -2);
        }
        CHECK.due("no act", x.count(9), 0);
    }

    private static void pacesOfOneToSix() {
        HandLine x = one(60);
        int was = 1;
        for (int n : new int[] {6, 5, 4, 3, 2, 1, 1, 6}) {
            CHECK.due("paces(0, " + n + "), what it was", x.paces(0, n), was);
            CHECK.due("hand(0, 0)", x.hand(0, 0), n);
            CHECK.due("thrown(59)", x.thrown(59), 59 / n);
            was = n;
        }
        CHECK.due("count(9), each is an act", x.count(9), 8);
        CHECK.due("spills stay", x.hand(0, 1), 0);
    }

    private static void pacesFromSecondNothing() {
        HandLine x = one(12);
        x.paces(0, 5);
        CHECK.dueRow("held", s -> x.held(0, s), 1, 2, 3, 4, 5, 1, 2, 3, 4, 5, 1, 2, -2);
        CHECK.due("when(0)", x.when(0), 5);
    }

    private static void noSuchPace() {
        HandLine x = two("");
        for (int n : new int[] {-1, 0, 7, GREATEST, LEAST}) {
            CHECK.due("paces(0, " + n + ")", x.paces(0, n), -2);
        }
        for (int hand : new int[] {-1, 2, 6, GREATEST, LEAST}) {
            CHECK.due("paces(" + hand + ", 1)", x.paces(hand, 1), -2);
        }
        CHECK.due("no act", x.count(9), 0);
        CHECK.dueRow("paces stay", h -> x.hand(h, 0), 1, 3, -2);
    }

    private static void thirtyActs() {
        for (int kind = 0; kind < 2; kind++) {
            HandLine x = one(60);
            for (int i = 0; i < 29; i++) {
                x.rest(0, 2 * i + 1, 1);
            }
            CHECK.due("count(9)", x.count(9), 29);
            CHECK.due("the 30th", kind == 0 ? x.rest(0, 59, 1) : x.paces(0, 2), kind == 0 ? 29 : 1);
            CHECK.due("count(9)", x.count(9), 30);
            int thrown = x.thrown(59);
            CHECK.due("rest, the 31st", x.rest(0, 0, 1), -5);
            CHECK.due("paces, the 31st", x.paces(0, 6), -5);
            CHECK.due("rest, -2 ahead of -5", x.rest(1, 0, 1), -2);
            CHECK.due("rest, -2 ahead of -5", x.rest(0, 60, 1), -2);
            CHECK.due("rest, -2 ahead of -5", x.rest(0, 0, 10), -2);
            CHECK.due("paces, -2 ahead of -5", x.paces(1, 1), -2);
            CHECK.due("paces, -2 ahead of -5", x.paces(0, 0), -2);
            CHECK.due("nothing happens", x.count(9), 30);
            CHECK.due("nothing happens", x.thrown(59), thrown);
            CHECK.due("nothing happens", x.hand(0, 0), 1 + kind);
            CHECK.due("undo()", x.undo(), 29);
            CHECK.due("the 30th again", x.paces(0, 6), 1);
            CHECK.due("the 31st again", x.paces(0, 6), -5);
            CHECK.due("anew()", x.anew(), 30);
            CHECK.due("the first again", x.rest(0, 0, 1), 58);
        }
    }

    private static void undoToNone() {
        HandLine x = one(60);
        CHECK.due("undo() of none", x.undo(), -5);
        for (int i = 0; i < 30; i++) {
            x.paces(0, 1 + i % 6);
        }
        for (int i = 29; i >= 0; i--) {
            CHECK.due("undo()", x.undo(), i);
            CHECK.due("pace behind it", x.hand(0, 0), i == 0 ? 1 : 1 + (i - 1) % 6);
        }
        CHECK.due("undo() of none", x.undo(), -5);
        CHECK.due("count(9)", x.count(9), 0);
    }

    private static void undoOfEachKind() {
        HandLine x = two("");
        int before = x.thrown(11);
        x.paces(1, 1);
        x.rest(1, 0, 9);
        CHECK.due("undo() of a rest", x.undo(), 1);
        CHECK.due("the pace stays", x.hand(1, 0), 1);
        CHECK.due("starts(1)", x.starts(1), 1);
        x.rest(0, 0, 2);
        x.paces(1, 6);
        CHECK.due("undo() of a pace", x.undo(), 2);
        CHECK.due("the pace ahead of it", x.hand(1, 0), 1);
        CHECK.due("the rest stays", x.starts(0), 2);
        CHECK.due("undo()", x.undo(), 1);
        CHECK.due("undo()", x.undo(), 0);
        CHECK.due("the pace told", x.hand(1, 0), 3);
        CHECK.due("thrown(11)", x.thrown(11), before);
    }

    private static void anewOfAll() {
        HandLine x = two("");
        CHECK.due("anew() of none", x.anew(), 0);
        x.paces(0, 6);
        x.rest(1, 0, 9);
        x.paces(1, 6);
        CHECK.due("anew()", x.anew(), 3);
        CHECK.due("anew() again", x.anew(), 0);
        CHECK.dueRow("paces as told", h -> x.hand(h, 0), 1, 3, -2);
        CHECK.dueRow("starts", x::starts, 0, 1, -2);
        CHECK.due("undo() of none", x.undo(), -5);
    }

    private static void fillsOfOneToThirty() {
        HandLine x = one(3);
        int was = 9;
        for (int n : new int[] {1, 30, 2, 29, 29}) {
            CHECK.due("fills(" + n + "), what it was", x.fills(n), was);
            CHECK.due("count(2)", x.count(2), n);
            CHECK.due("holds(0, 0)", x.holds(0, 0), n);
            CHECK.due("water(2)", x.water(2), 2 * n);
            CHECK.due("no act", x.count(9), 0);
            was = n;
        }
        CHECK.due("undo() of none", x.undo(), -5);
        CHECK.due("anew() of none", x.anew(), 0);
        CHECK.due("size stays", x.count(2), 29);
    }

    private static void fillsWithActs() {
        HandLine x = one(3);
        x.rest(0, 0, 1);
        CHECK.due("fills(5) with a rest", x.fills(5), -5);
        CHECK.due("fills(9), as it is, with a rest", x.fills(9), -5);
        CHECK.due("fills(0), -2 ahead of -5", x.fills(0), -2);
        CHECK.due("fills(31), -2 ahead of -5", x.fills(31), -2);
        CHECK.due("nothing happens", x.count(2), 9);
        x.undo();
        CHECK.due("fills(5), taken back", x.fills(5), 9);
        x.paces(0, 1);
        CHECK.due("fills(6) with a pace", x.fills(6), -5);
        x.paces(0, 2);
        x.undo();
        CHECK.due("fills(6), one of two taken back", x.fills(6), -5);
        x.anew();
        CHECK.due("fills(6), all taken back", x.fills(6), 5);
    }

    private static void noSuchFill() {
        HandLine x = one(3);
        for (int n : new int[] {-1, 0, 31, GREATEST, LEAST}) {
            CHECK.due("fills(" + n + ")", x.fills(n), -2);
            CHECK.due("fills(" + n + ") of no BRIGADE", new HandLine().fills(n), -2);
        }
        CHECK.due("size stays", x.count(2), 9);
    }

    private static void imagesOfThree() {
        HandLine x = one(7);
        for (int k = 0; k < 3; k++) {
            x.paces(0, 2 + k);
            CHECK.due("image(" + k + ")", x.image(k), 0);
        }
        x.anew();
        for (int k : new int[] {1, 2, 0, 2}) {
            CHECK.due("back(" + k + ")", x.back(k), 0);
            CHECK.due("pace of IMAGE " + k, x.hand(0, 0), 2 + k);
            CHECK.due("acts of IMAGE " + k, x.count(9), 1 + k);
            CHECK.due("thrown of IMAGE " + k, x.thrown(6), 6 / (2 + k));
        }
    }

    private static void imageOfNoBrigade() {
        HandLine x = new HandLine();
        CHECK.due("image(0)", x.image(0), 0);
        Check.feed(x, "brigade seconds 3 buckets 1 size 9 back 0 odds 0;");
        x.brigade();
        CHECK.due("back(0), it has no BRIGADE, but something", x.back(0), 0);
        CHECK.due("out()", x.out(), -2);
        CHECK.due("count(0)", x.count(0), 0);
        CHECK.due("count(10)", x.count(10), 0);
        CHECK.due("back(1), it has nothing", x.back(1), -6);
    }

    private static void imageKeepsActs() {
        HandLine x = two("fire heat 9 grows 2;together 0 1;");
        x.fills(20);
        x.rest(0, 2, 3);
        x.paces(1, 6);
        x.image(2);
        int when = x.when(0);
        Check.feed(x, "brigade seconds 1 buckets 1 size 1 back 0 odds 0;");
        x.brigade();
        CHECK.due("back(2)", x.back(2), 0);
        CHECK.dueRow("count", x::count, 12, 2, 20, 1, 5, 2, 1, 9, 2, 2, 5, 0, 0);
        CHECK.due("when(0)", x.when(0), when);
        CHECK.due("undo()", x.undo(), 1);
        CHECK.due("hand(1, 0)", x.hand(1, 0), 3);
        CHECK.due("stays(0) with the rest", x.stays(0) > 0 ? 1 : 0, 1);
        CHECK.due("undo()", x.undo(), 0);
        CHECK.due("undo()", x.undo(), -5);
        CHECK.due("size is as it was filled", x.count(2), 20);
    }

    private static void imageStaysAsItWasKept() {
        HandLine x = one(7);
        x.paces(0, 2);
        x.image(0);
        x.paces(0, 3);
        x.undo();
        x.undo();
        x.fills(4);
        x.rest(0, 0, 3);
        x.back(0);
        CHECK.due("pace", x.hand(0, 0), 2);
        CHECK.due("size", x.count(2), 9);
        CHECK.due("starts(0)", x.starts(0), 0);
        x.undo();
        x.paces(0, 5);
        x.paces(0, 6);
        x.back(0);
        CHECK.due("pace, gone back again", x.hand(0, 0), 2);
        CHECK.due("acts, gone back again", x.count(9), 1);
        x.paces(0, 4);
        CHECK.due("image(0) in place of another", x.image(0), 0);
        x.anew();
        x.back(0);
        CHECK.due("pace of the other", x.hand(0, 0), 4);
        CHECK.due("acts of the other", x.count(9), 2);
    }

    private static void backToNothing() {
        HandLine x = one(7);
        x.paces(0, 2);
        for (int k = 0; k < 3; k++) {
            CHECK.due("back(" + k + ")", x.back(k), -6);
        }
        CHECK.due("acts stay", x.count(9), 1);
        CHECK.due("pace stays", x.hand(0, 0), 2);
        x.image(1);
        CHECK.due("back(0)", x.back(0), -6);
        CHECK.due("back(1)", x.back(1), 0);
        CHECK.due("back(2)", x.back(2), -6);
    }

    private static void backLeavesTheRest() {
        HandLine x = one(7);
        x.image(0);
        x.row(2, 1, 4);
        Check.feed(x, "brigade seconds 61");
        x.brigade();
        x.paces(0, 2);
        x.image(1);
        x.back(0);
        CHECK.due("the TAPE", x.count(11), 18);
        CHECK.due("the FAULT", x.fault(0), 2);
        CHECK.due("its place", x.fault(1), 16);
        CHECK.due("SLOTS", x.count(12), 1);
        CHECK.due("a row", x.write(2, 3, 1), 0);
        x.back(1);
        CHECK.due("another IMAGE", x.count(9), 1);
    }

    private static void noSuchImage() {
        HandLine x = one(7);
        for (int k : new int[] {-1, 3, GREATEST, LEAST}) {
            CHECK.due("image(" + k + ")", x.image(k), -2);
            CHECK.due("back(" + k + ")", x.back(k), -2);
        }
    }

    private static void noBrigade() {
        HandLine x = new HandLine();
        CHECK.due("rest(0, 0, 1)", x.rest(0, 0, 1), -2);
        CHECK.due("paces(0, 1)", x.paces(0, 1), -2);
        CHECK.due("undo(), -2 ahead of -5", x.undo(), -2);
        CHECK.due("anew()", x.anew(), -2);
        CHECK.due("fills(1)", x.fills(1), -2);
        CHECK.due("fills(30)", x.fills(30), -2);
    }

    private static void noHands() {
        HandLine x = Check.told("brigade seconds 7 buckets 8 size 9 back 0 odds 0;");
        CHECK.due("rest(0, 0, 1)", x.rest(0, 0, 1), -2);
        CHECK.due("paces(0, 1)", x.paces(0, 1), -2);
        CHECK.due("undo()", x.undo(), -5);
        CHECK.due("anew()", x.anew(), 0);
        CHECK.due("fills(30)", x.fills(30), 9);
    }
}
