/** Promises 63 to 66, 69, 71 and 72: rests, paces told anew, taken back; fills; images. */
public final class ActsTest {
    private static final Check CHECK = new Check();
    private static final String THREE = "brigade seconds 12 buckets 2 size 10 back 1 odds 5;"
            + "hand pace 1 spills 1;hand pace 3 spills 0;hand pace 2 spills 2;";

    public static void main(String[] args) {
        actsAndUndo();
        overlaps();
        thirty();
        wrongActs();
        fills();
        images();
        nothing();
        CHECK.finish();
    }

    private static void actsAndUndo() {
        HandLine x = Check.told(THREE);
        CHECK.due("undo() of none", x.undo(), -5);
        CHECK.due("anew() of none", x.anew(), 0);
        CHECK.due("rest(0, 1, 2)", x.rest(0, 1, 2), 2);
        CHECK.dueRow("when", x::when, 8, 11, -1);
        CHECK.due("paces(1, 1)", x.paces(1, 1), 3);
        CHECK.due("hand(1, 0)", x.hand(1, 0), 1);
        CHECK.dueRow("when", x::when, 6, 8, -1);
        CHECK.due("paces(1, 6)", x.paces(1, 6), 1);
        CHECK.due("count(9)", x.count(9), 3);
        CHECK.due("undo()", x.undo(), 2);
        CHECK.due("hand(1, 0)", x.hand(1, 0), 1);
        CHECK.dueRow("when", x::when, 6, 8, -1);
        CHECK.due("undo()", x.undo(), 1);
        CHECK.due("hand(1, 0)", x.hand(1, 0), 3);
        CHECK.due("when(0)", x.when(0), 8);
        CHECK.due("paces(1, 3), as it is", x.paces(1, 3), 3);
        CHECK.due("anew()", x.anew(), 2);
        CHECK.due("count(9)", x.count(9), 0);
        CHECK.dueRow("when", x::when, 6, 9, -1);
        CHECK.due("undo()", x.undo(), -5);
    }

    /** Of two rests of one HAND in one SECOND the other one stays. */
    private static void overlaps() {
        HandLine x = Check.told(THREE);
        x.rest(0, 0, 2);
        x.rest(0, 1, 3);
        CHECK.due("starts(0)", x.starts(0), 4);
        CHECK.due("undo()", x.undo(), 1);
        CHECK.due("starts(0)", x.starts(0), 2);
        x.anew();
        // To the last SECOND and beyond it.
        CHECK.due("rest(2, 6, 9)", x.rest(2, 6, 9), 0);
        CHECK.due("rest(0, 11, 9)", x.rest(0, 11, 9), 0);
        x.anew();
        CHECK.due("rest(2, 6, 1)", x.rest(2, 6, 1), 2);
        CHECK.dueRow("when", x::when, 7, 9, -1);
        HandLine y = Check.told("brigade seconds 60 buckets 1 size 1 back 0 odds 0;hand pace 1 spills 0;");
        CHECK.due("rest(0, 59, 9)", y.rest(0, 59, 9), 29);
        CHECK.due("rest(0, 0, 1)", y.rest(0, 0, 1), 29);
        CHECK.due("thrown(59) without", y.anew() * 0 + y.thrown(59), 30);
    }

    private static void thirty() {
        HandLine x = Check.told(THREE);
        for (int i = 0; i < 30; i++) {
            if (i % 2 == 0) {
                CHECK.due("paces", x.paces(0, 1 + i / 2 % 2), i == 0 ? 1 : 2 - i / 2 % 2);
            } else {
                CHECK.due("rest of a late SECOND", x.rest(1, 11, 1), 2);
            }
        }
        CHECK.due("count(9)", x.count(9), 30);
        CHECK.due("rest, the 31st", x.rest(0, 0, 1), -5);
        CHECK.due("paces, the 31st", x.paces(0, 1), -5);
        CHECK.due("-2 ahead of -5", x.rest(3, 0, 1), -2);
        CHECK.due("-2 ahead of -5", x.paces(0, 7), -2);
        CHECK.due("count(9)", x.count(9), 30);
        CHECK.due("undo()", x.undo(), 29);
        CHECK.due("paces, the 30th", x.paces(0, 3), 1);
        CHECK.due("anew()", x.anew(), 30);
        CHECK.due("hand(0, 0)", x.hand(0, 0), 1);
    }

    private static void wrongActs() {
        HandLine x = Check.told(THREE);
        int[][] rests = {{3, 0, 1}, {-1, 0, 1}, {0, 12, 1}, {0, -1, 1}, {0, 0, 0}, {0, 0, 10}, {0, 0, -1}};
        for (int[] w : rests) {
            CHECK.due("rest", x.rest(w[0], w[1], w[2]), -2);
        }
        int[][] paces = {{3, 1}, {-1, 1}, {0, 0}, {0, 7}, {0, -1}};
        for (int[] w : paces) {
            CHECK.due("paces", x.paces(w[0], w[1]), -2);
        }
        CHECK.due("count(9)", x.count(9), 0);
        CHECK.due("hand(0, 0)", x.hand(0, 0), 1);
    }

    private static void fills() {
        HandLine x = Check.told(THREE);
        CHECK.due("fills(5)", x.fills(5), 10);
        CHECK.due("count(2)", x.count(2), 5);
        CHECK.due("water(11)", x.water(11), 4);
        CHECK.due("holds(0, 0)", x.holds(0, 0), 5);
        CHECK.due("fills(30)", x.fills(30), 5);
        CHECK.due("water(11)", x.water(11), 54);
        CHECK.due("fills(1)", x.fills(1), 30);
        CHECK.due("water(11)", x.water(11), 0);
        CHECK.due("fills(0)", x.fills(0), -2);
        CHECK.due("fills(31)", x.fills(31), -2);
        CHECK.due("no act", x.count(9), 0);
        x.paces(0, 1);
        CHECK.due("fills(5) with acts", x.fills(5), -5);
        CHECK.due("fills(31), -2 ahead of -5", x.fills(31), -2);
        CHECK.due("count(2)", x.count(2), 1);
        x.undo();
        CHECK.due("fills(5)", x.fills(5), 1);
        x.paces(0, 1);
        x.anew();
        CHECK.due("size stays behind anew()", x.count(2), 5);
    }

    private static void images() {
        HandLine x = Check.told(THREE + "fire heat 5 grows 1;");
        CHECK.due("back(0)", x.back(0), -6);
        x.fills(9);
        x.paces(1, 1);
        x.rest(0, 1, 2);
        CHECK.due("image(0)", x.image(0), 0);
        x.undo();
        x.paces(2, 6);
        x.paces(2, 5);
        CHECK.due("image(1)", x.image(1), 0);
        Check.feed(x, "brigade seconds 1 buckets 1 size 1 back 0 odds 0;");
        x.row(0, 0, 1);
        x.brigade();
        CHECK.due("back(2)", x.back(2), -6);
        CHECK.due("image(2)", x.image(2), 0);
        CHECK.due("back(0)", x.back(0), 0);
        CHECK.dueRow("count", x::count, 12, 2, 9, 1, 5, 3, 0, 5, 1, 2, 5, 0, 1);
        CHECK.due("when(0)", x.when(0), 6);
        CHECK.due("hand(2, 0)", x.hand(2, 0), 2);
        CHECK.due("undo()", x.undo(), 1);
        CHECK.due("hand(1, 0)", x.hand(1, 0), 1);
        CHECK.due("undo()", x.undo(), 0);
        CHECK.due("hand(1, 0)", x.hand(1, 0), 3);
        CHECK.due("fills(4)", x.fills(4), 9);
        CHECK.due("back(1)", x.back(1), 0);
        CHECK.due("count(9)", x.count(9), 3);
        CHECK.due("hand(2, 0)", x.hand(2, 0), 5);
        CHECK.due("undo()", x.undo(), 2);
        CHECK.due("hand(2, 0)", x.hand(2, 0), 6);
        CHECK.due("back(0), as it was kept", x.back(0), 0);
        CHECK.due("count(2)", x.count(2), 9);
        CHECK.due("count(9)", x.count(9), 2);
        CHECK.due("back(2)", x.back(2), 0);
        CHECK.due("count(0)", x.count(0), 1);
        CHECK.due("count(5)", x.count(5), 0);
        x.brigade();
        CHECK.due("image(2) of no BRIGADE", x.image(2), 0);
        x.back(0);
        CHECK.due("back(2)", x.back(2), 0);
        CHECK.due("no BRIGADE", x.out(), -2);
        for (int k : new int[] {-1, 3}) {
            CHECK.due("image", x.image(k), -2);
            CHECK.due("back", x.back(k), -2);
        }
        tapeStays();
        actsComeBack();
    }

    /** What was worked out ahead of back() is stale, and acts that were overwritten are there again. */
    private static void actsComeBack() {
        HandLine x = Check.told(THREE);
        x.paces(1, 1);
        x.rest(0, 1, 2);
        x.image(0);
        CHECK.dueRow("when", x::when, 6, 8, -1);
        x.anew();
        x.rest(2, 5, 3);
        x.paces(0, 6);
        CHECK.due("when(0)", x.when(0), 11);
        CHECK.due("back(0)", x.back(0), 0);
        CHECK.dueRow("when", x::when, 6, 8, -1);
        x.paces(2, 6);
        CHECK.due("when(0)", x.when(0), 10);
        CHECK.due("undo()", x.undo(), 2);
        CHECK.dueRow("when", x::when, 6, 8, -1);
        CHECK.dueRow("pace", h -> x.hand(h, 0), 1, 1, 2);
    }

    private static void tapeStays() {
        HandLine x = Check.told(THREE);
        x.image(0);
        Check.feed(x, "brigade seconds 0");
        x.brigade();
        x.row(1, 0, 2);
        CHECK.due("back(0)", x.back(0), 0);
        CHECK.due("the TAPE stays", x.count(11), 17);
        CHECK.due("the SLOTS stay", x.count(12), 1);
        CHECK.due("the FAULT stays", x.fault(0), 2);
        CHECK.due("the FAULT stays", x.fault(1), 16);
    }

    private static void nothing() {
        HandLine x = new HandLine();
        CHECK.due("rest(0, 0, 1)", x.rest(0, 0, 1), -2);
        CHECK.due("paces(0, 1)", x.paces(0, 1), -2);
        CHECK.due("undo()", x.undo(), -2);
        CHECK.due("anew()", x.anew(), -2);
        CHECK.due("fills(1)", x.fills(1), -2);
        CHECK.due("image(0)", x.image(0), 0);
        CHECK.due("back(0)", x.back(0), 0);
        CHECK.due("back(1)", x.back(1), -6);
    }
}
