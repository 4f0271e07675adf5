/** Promises 73 to 75: rows of numbers in SLOTS, read back through fits() of one HAND. */
public final class SlotsTest {
    private static final Check CHECK = new Check();

    public static void main(String[] args) {
        rows();
        writes();
        widths();
        pastes();
        pastesWithin();
        wrongPastes();
        CHECK.finish();
    }

    private static HandLine line() {
        return Check.told("brigade seconds 60 buckets 8 size 9 back 0 odds 0;hand pace 1 spills 0;");
    }

    private static void rows() {
        HandLine x = new HandLine();
        CHECK.due("row(0, 0, 60)", x.row(0, 0, 60), 0);
        CHECK.due("row(3, 3, 0)", x.row(3, 3, 0), 0);
        CHECK.due("count(12)", x.count(12), 2);
        int[][] wrong = {{-1, 0, 0}, {4, 0, 0}, {0, -1, 0}, {0, 4, 0}, {0, 0, 61}, {4, 0, -1}, {0, 4, -1}};
        for (int[] w : wrong) {
            CHECK.due("row", x.row(w[0], w[1], w[2]), -2);
        }
        CHECK.due("row(1, 0, -1)", x.row(1, 0, -1), -3);
        CHECK.due("count(12), the SLOT stays", x.count(12), 2);
        CHECK.due("row(0, 1, -1)", x.row(0, 1, Integer.MIN_VALUE), -3);
        CHECK.due("the SLOT stays", x.write(0, 59, 0), 0);
        CHECK.due("row(0, 1, 2)", x.row(0, 1, 2), 0);
        CHECK.due("count(12), in place of another", x.count(12), 2);
        CHECK.due("write(0, 2, 0)", x.write(0, 2, 0), -7);
    }

    private static void writes() {
        HandLine x = line();
        CHECK.due("write(-1, 0, 0)", x.write(-1, 0, 0), -2);
        CHECK.due("write(4, 0, 0)", x.write(4, 0, 0), -2);
        CHECK.due("write(0, 0, 0)", x.write(0, 0, 0), -6);
        x.row(0, 0, 2);
        CHECK.due("write(0, 2, 0)", x.write(0, 2, 0), -7);
        CHECK.due("write(0, -1, 0)", x.write(0, -1, 0), -7);
        CHECK.due("fits(0) of 0, 0", x.fits(0), 1);
        CHECK.due("write(0, 0, 5)", x.write(0, 0, 5), 0);
        CHECK.due("fits(0) of 5, 0", x.fits(0), 0);
        CHECK.due("write(0, 1, 5)", x.write(0, 1, 5), 0);
        CHECK.due("fits(0) of 5, 5", x.fits(0), 1);
        x.row(0, 0, 2);
        x.write(0, 0, 1);
        CHECK.due("fits(0), all 0 anew", x.fits(0), 0);
        x.write(0, 0, 5);
        x.row(0, 0, 2);
        CHECK.due("fits(0), all 0 anew", x.fits(0), 1);
        x.row(1, 0, 0);
        CHECK.due("write(1, 0, 0)", x.write(1, 0, 0), -7);
    }

    /** Cut to the WIDTH: what is above it goes. */
    private static void widths() {
        for (int width = 0; width <= 3; width++) {
            HandLine x = line();
            x.row(0, width, 2);
            int bits = 8 << width;
            x.write(0, 0, 5 + (bits == 64 ? 0 : 1L << bits));
            x.write(0, 1, 5 + (bits == 64 ? 0 : -1L << bits));
            CHECK.due("fits, cut to WIDTH " + width, x.fits(0), 1);
            x.write(0, 1, 5 + (1L << bits - 1));
            CHECK.due("fits, not cut below WIDTH " + width, x.fits(0), -2);
            x.write(0, 1, 5 + (1L << bits - 2));
            CHECK.due("fits, not cut below WIDTH " + width, x.fits(0), width == 0 ? 0 : -2);
        }
    }

    private static void put(HandLine x, int slot, int width, long... numbers) {
        x.row(slot, width, numbers.length);
        for (int i = 0; i < numbers.length; i++) {
            x.write(slot, i, numbers[i]);
        }
    }

    /** Whether the row begins with these numbers, each of which is below 60: thrown to SECOND n are n. */
    private static void has(HandLine x, int slot, int... numbers) {
        for (int i = 0; i < numbers.length; i++) {
            x.row(3, 2, 2);
            x.paste(slot, i, 3, 0, 1);
            x.write(3, 1, numbers[i]);
            CHECK.due("number " + i, x.fits(3), 1);
        }
    }

    private static void pastes() {
        HandLine x = line();
        put(x, 0, 2, 1, 2, 3, 4);
        put(x, 1, 2, 11, 12, 13, 14, 15, 16);
        CHECK.due("paste(0, 1, 1, 3, 2)", x.paste(0, 1, 1, 3, 2), 0);
        has(x, 0, 1, 2, 3, 4);
        has(x, 1, 11, 12, 13, 2, 3, 16);
        CHECK.due("paste(1, 2, 0, 0, 4)", x.paste(1, 2, 0, 0, 4), 0);
        has(x, 0, 13, 2, 3, 16);
        CHECK.due("paste of 0 at the ends", x.paste(0, 4, 1, 6, 0), 0);
    }

    private static void pastesWithin() {
        HandLine x = line();
        put(x, 0, 2, 1, 2, 3, 4, 5);
        CHECK.due("paste(0, 0, 0, 1, 4)", x.paste(0, 0, 0, 1, 4), 0);
        has(x, 0, 1, 1, 2, 3, 4);
        CHECK.due("paste(0, 2, 0, 0, 3)", x.paste(0, 2, 0, 0, 3), 0);
        has(x, 0, 2, 3, 4, 3, 4);
    }

    private static void wrongPastes() {
        HandLine x = line();
        put(x, 0, 2, 1, 2, 3, 4);
        put(x, 1, 1, 1, 2, 3, 4);
        put(x, 3, 2, 5, 6);
        int[] no = {-1, 4};
        for (int slot : no) {
            CHECK.due("paste from none such", x.paste(slot, 0, 0, 0, 0), -2);
            CHECK.due("paste to none such", x.paste(0, 0, slot, 0, 0), -2);
            CHECK.due("-2 ahead of -6", x.paste(slot, 0, 2, 0, 0), -2);
            CHECK.due("-2 ahead of -6", x.paste(2, 0, slot, 0, 0), -2);
        }
        CHECK.due("paste from nothing", x.paste(2, 0, 0, 0, 0), -6);
        CHECK.due("paste to nothing", x.paste(0, 0, 2, 0, 0), -6);
        CHECK.due("-6 ahead of -7", x.paste(0, -1, 2, 0, 0), -6);
        CHECK.due("paste of other WIDTH", x.paste(0, 0, 1, 0, 1), -8);
        CHECK.due("-8 ahead of -7", x.paste(0, -1, 1, 0, 1), -8);
        int[][] beyond = {{0, 0, 3}, {3, 0, 2}, {0, 1, 2}, {4, 0, 1}, {0, 2, 1}, {-1, 0, 1}, {0, -1, 1}, {0, 0, -1},
            {-1, 0, 0}, {0, -1, 0}, {Integer.MAX_VALUE, 0, 1}, {0, Integer.MAX_VALUE, 1}, {1, 1, Integer.MAX_VALUE},
            {0, 0, Integer.MIN_VALUE}, {Integer.MAX_VALUE, 0, Integer.MAX_VALUE}};
        for (int[] w : beyond) {
            CHECK.due("paste beyond", x.paste(0, w[0], 3, w[1], w[2]), -7);
        }
        x.row(2, 2, 2);
        x.paste(3, 0, 2, 0, 2);
        CHECK.due("nothing happens", x.fits(2), 0);
        x.write(2, 1, 5);
        CHECK.due("nothing happens", x.fits(2), 1);
    }
}
