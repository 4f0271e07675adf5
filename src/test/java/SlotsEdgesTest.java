/** The edges that the Terms name of SLOTS, and promises 73 to 75: each sentence by itself. */
public final class SlotsEdgesTest {
    private static final int LEAST = Integer.MIN_VALUE;
    private static final int GREATEST = Integer.MAX_VALUE;
    private static final Check CHECK = new Check();

    public static void main(String[] args) {
        rowsOfNothingToSixty();
        rowsOfAllWidths();
        rowsInPlaceOfAnother();
        rowsOfAllSlots();
        noSuchRow();
        belowNothing();
        writesOfAllPlaces();
        noSuchWrite();
        cutToOneByte();
        cutToTwoBytes();
        cutToFourBytes();
        cutToEightBytes();
        pastesOfAll();
        pastesOfNothing();
        pastesForwardAndBackward();
        pastesOfWideNumbers();
        pastesBeyond();
        pastesOfOtherWidths();
        noSuchPaste();
        staysWithoutBrigade();
        CHECK.finish();
    }

    /** One HAND, thrown to the end of SECOND n are n: a row n n fits. */
    private static HandLine line() {
        return Check.told("brigade seconds 60 buckets 8 size 9 back 0 odds 0;hand pace 1 spills 0;");
    }

    private static void put(HandLine x, int slot, int width, long... numbers) {
        x.row(slot, width, numbers.length);
        for (int i = 0; i < numbers.length; i++) {
            x.write(slot, i, numbers[i]);
        }
    }

    /** Whether the row of a SLOT (0 .. 2) begins with these numbers, by SLOT 3. */
    private static void has(String name, HandLine x, int slot, int width, int... numbers) {
        for (int i = 0; i < numbers.length; i++) {
            x.row(3, width, 2);
            x.paste(slot, i, 3, 0, 1);
            x.write(3, 1, numbers[i]);
            CHECK.due(name + ", number " + i, x.fits(3), 1);
        }
    }

    private static void rowsOfNothingToSixty() {
        for (int n = 0; n <= 60; n++) {
            HandLine x = new HandLine();
            CHECK.due("row(0, 0, " + n + ")", x.row(0, 0, n), 0);
            CHECK.due("count(12)", x.count(12), 1);
            CHECK.due("write, the last of " + n, x.write(0, n - 1, 1), n == 0 ? -7 : 0);
            CHECK.due("write, one beyond " + n, x.write(0, n, 1), -7);
        }
        CHECK.due("row(0, 0, 61)", new HandLine().row(0, 0, 61), -2);
        CHECK.due("row of the greatest", new HandLine().row(0, 0, GREATEST), -2);
    }

    private static void rowsOfAllWidths() {
        HandLine x = new HandLine();
        for (int width = 0; width < 4; width++) {
            CHECK.due("row(" + width + ", " + width + ", 60)", x.row(width, width, 60), 0);
        }
        for (int from = 0; from < 4; from++) {
            for (int to = 0; to < 4; to++) {
                CHECK.due("paste from " + from + " to " + to, x.paste(from, 0, to, 0, 60), from == to ? 0 : -8);
            }
        }
    }

    private static void rowsInPlaceOfAnother() {
        HandLine x = line();
        put(x, 0, 2, 7, 7, 7, 7);
        CHECK.due("row(0, 0, 2)", x.row(0, 0, 2), 0);
        CHECK.due("count(12)", x.count(12), 1);
        has("all 0", x, 0, 0, 0, 0);
        CHECK.due("write(0, 2, 1), it is shorter", x.write(0, 2, 1), -7);
        CHECK.due("row(0, 0, 4)", x.row(0, 0, 4), 0);
        has("all 0, longer again", x, 0, 0, 0, 0, 0, 0);
        CHECK.due("row(0, 0, 0)", x.row(0, 0, 0), 0);
        CHECK.due("a row of 0 is a row", x.fits(0), 1);
        CHECK.due("a row of 0 has no number", x.write(0, 0, 1), -7);
    }

    private static void rowsOfAllSlots() {
        HandLine x = line();
        for (int slot = 0; slot < 4; slot++) {
            CHECK.due("count(12)", x.count(12), slot);
            put(x, slot, 0, slot + 1, slot + 1);
        }
        CHECK.due("count(12)", x.count(12), 4);
        for (int slot = 0; slot < 4; slot++) {
            CHECK.due("fits(" + slot + "), its own", x.fits(slot), 1);
            x.write(slot, 0, 50);
            CHECK.due("fits(" + slot + "), another number", x.fits(slot), 0);
        }
        // The last number of one SLOT is not the first of the next.
        HandLine y = line();
        for (int slot = 0; slot < 3; slot++) {
            y.row(slot, 0, 60);
        }
        y.write(0, 59, 7);
        y.write(1, 59, 8);
        has("SLOT 1", y, 1, 0, 0, 0);
        has("SLOT 2", y, 2, 0, 0, 0);
    }

    private static void noSuchRow() {
        HandLine x = line();
        put(x, 0, 0, 5, 5);
        for (int slot : new int[] {-1, 4, GREATEST, LEAST}) {
            CHECK.due("row(" + slot + ", 0, 1)", x.row(slot, 0, 1), -2);
            CHECK.due("row(" + slot + ", 0, -1), -2 ahead of -3", x.row(slot, 0, -1), -2);
        }
        for (int width : new int[] {-1, 4, GREATEST, LEAST}) {
            CHECK.due("row(0, " + width + ", 1)", x.row(0, width, 1), -2);
            CHECK.due("row(0, " + width + ", -1), -2 ahead of -3", x.row(0, width, -1), -2);
        }
        CHECK.due("row(0, 0, 61)", x.row(0, 0, 61), -2);
        CHECK.due("row(1, 0, 61)", x.row(1, 0, 61), -2);
        CHECK.due("the SLOT stays", x.fits(0), 1);
        CHECK.due("SLOT 1 has nothing", x.write(1, 0, 0), -6);
    }

    private static void belowNothing() {
        HandLine x = line();
        put(x, 0, 0, 5, 5);
        for (int n : new int[] {-1, -60, LEAST}) {
            CHECK.due("row(0, 3, " + n + ")", x.row(0, 3, n), -3);
            CHECK.due("row(1, 0, " + n + ")", x.row(1, 0, n), -3);
        }
        CHECK.due("the SLOT stays", x.fits(0), 1);
        CHECK.due("its WIDTH stays", x.write(0, 0, 256 + 5) + x.fits(0), 1);
        CHECK.due("SLOT 1 has nothing", x.write(1, 0, 0), -6);
        CHECK.due("count(12)", x.count(12), 1);
    }

    private static void writesOfAllPlaces() {
        HandLine x = line();
        x.row(0, 0, 60);
        for (int i = 0; i < 60; i++) {
            CHECK.due("write(0, " + i + ", " + i + ")", x.write(0, i, i), 0);
        }
        int[] numbers = new int[60];
        for (int i = 0; i < 60; i++) {
            numbers[i] = i;
        }
        has("as written", x, 0, 0, numbers);
    }

    private static void noSuchWrite() {
        HandLine x = line();
        put(x, 0, 0, 5, 5);
        for (int slot : new int[] {-1, 4, GREATEST, LEAST}) {
            CHECK.due("write(" + slot + ", 0, 1)", x.write(slot, 0, 1), -2);
            CHECK.due("write(" + slot + ", -1, 1), -2 ahead of -7", x.write(slot, -1, 1), -2);
        }
        for (int slot = 1; slot < 4; slot++) {
            CHECK.due("write(" + slot + ", 0, 1)", x.write(slot, 0, 1), -6);
            CHECK.due("write(" + slot + ", -1, 1), -6 ahead of -7", x.write(slot, -1, 1), -6);
        }
        for (int i : new int[] {-1, 2, 60, GREATEST, LEAST}) {
            CHECK.due("write(0, " + i + ", 1)", x.write(0, i, 1), -7);
        }
        CHECK.due("nothing happens", x.fits(0), 1);
        CHECK.due("count(12)", x.count(12), 1);
    }

    /** What a row of one WIDTH has of v, asked by SECOND and number: fits if it is 5, -2 if it is none such. */
    private static void cut(int width, long v, int due) {
        HandLine x = line();
        put(x, 0, width, 5, v);
        CHECK.due("fits(0) of WIDTH " + width + ", " + v, x.fits(0), due);
        put(x, 0, width, v, 5);
        CHECK.due("fits(0) of SECOND " + v + ", WIDTH " + width, x.fits(0), due);
    }

    private static void cutToOneByte() {
        cut(0, 5, 1);
        cut(0, 256 + 5, 1);
        cut(0, -256 + 5, 1);
        cut(0, (1L << 8) + (1L << 16) + (1L << 32) + 5, 1);
        cut(0, Long.MIN_VALUE + 5, 1);
        cut(0, Long.MAX_VALUE - 250, 1);
        cut(0, 128 + 5, -2);
        cut(0, 255, -2);
        cut(0, -1, -2);
        cut(0, -128, -2);
        cut(0, 127, -2);
        HandLine x = line();
        put(x, 0, 0, 0, 256);
        CHECK.due("256 is cut to 0", x.fits(0), 1);
    }

    private static void cutToTwoBytes() {
        cut(1, 5, 1);
        cut(1, 256 + 5, -2);
        cut(1, 65536 + 5, 1);
        cut(1, -65536 + 5, 1);
        cut(1, (1L << 32) + 5, 1);
        cut(1, Long.MIN_VALUE + 5, 1);
        cut(1, 32768 + 5, -2);
        cut(1, 65535, -2);
        cut(1, -1, -2);
    }

    private static void cutToFourBytes() {
        cut(2, 5, 1);
        cut(2, 65536 + 5, -2);
        cut(2, (1L << 32) + 5, 1);
        cut(2, -(1L << 32) + 5, 1);
        cut(2, Long.MIN_VALUE + 5, 1);
        cut(2, (1L << 31) + 5, -2);
        cut(2, (1L << 32) - 1, -2);
        cut(2, -1, -2);
    }

    private static void cutToEightBytes() {
        cut(3, 5, 1);
        cut(3, 256 + 5, -2);
        cut(3, (1L << 32) + 5, -2);
        cut(3, (1L << 63) + 5, -2);
        cut(3, Long.MIN_VALUE, -2);
        cut(3, Long.MAX_VALUE, -2);
        cut(3, -1, -2);
    }

    private static void pastesOfAll() {
        HandLine x = line();
        put(x, 0, 1, 1, 2, 3);
        put(x, 1, 1, 11, 12, 13, 14);
        CHECK.due("paste(0, 0, 1, 0, 3), all of it", x.paste(0, 0, 1, 0, 3), 0);
        has("put to its first", x, 1, 1, 1, 2, 3, 14);
        CHECK.due("paste(0, 0, 1, 1, 3), to its end", x.paste(0, 0, 1, 1, 3), 0);
        has("put to its end", x, 1, 1, 1, 1, 2, 3);
        CHECK.due("paste(1, 3, 0, 2, 1), the last one", x.paste(1, 3, 0, 2, 1), 0);
        CHECK.due("paste(1, 0, 0, 0, 1), the first one", x.paste(1, 0, 0, 0, 1), 0);
        has("as they were", x, 0, 1, 1, 2, 3);
        long[] sixty = new long[60];
        java.util.Arrays.setAll(sixty, i -> i);
        put(x, 0, 1, sixty);
        x.row(2, 1, 60);
        CHECK.due("paste(0, 0, 2, 0, 60)", x.paste(0, 0, 2, 0, 60), 0);
        has("sixty", x, 2, 1, java.util.Arrays.stream(sixty).mapToInt(v -> (int) v).toArray());
        CHECK.due("paste(0, 0, 2, 0, 61)", x.paste(0, 0, 2, 0, 61), -7);
    }

    private static void pastesOfNothing() {
        HandLine x = line();
        put(x, 0, 1, 5, 5);
        put(x, 1, 1);
        put(x, 2, 1, 6, 6, 6);
        CHECK.due("paste(0, 0, 2, 0, 0)", x.paste(0, 0, 2, 0, 0), 0);
        CHECK.due("paste of 0 at both ends", x.paste(0, 2, 2, 3, 0), 0);
        CHECK.due("paste of 0 from a row of 0", x.paste(1, 0, 2, 0, 0), 0);
        CHECK.due("paste of 0 to a row of 0", x.paste(2, 0, 1, 0, 0), 0);
        CHECK.due("paste of 0 within a row of 0", x.paste(1, 0, 1, 0, 0), 0);
        CHECK.due("paste of 1 from a row of 0", x.paste(1, 0, 2, 0, 1), -7);
        CHECK.due("paste of 1 to a row of 0", x.paste(2, 0, 1, 0, 1), -7);
        CHECK.due("paste of 0 from one beyond", x.paste(0, 3, 2, 0, 0), -7);
        CHECK.due("paste of 0 to one beyond", x.paste(0, 0, 2, 4, 0), -7);
        CHECK.due("paste of 0 from below 0", x.paste(0, -1, 2, 0, 0), -7);
        CHECK.due("paste of 0 to below 0", x.paste(0, 0, 2, -1, 0), -7);
        CHECK.due("nothing happens", x.fits(0), 1);
        has("nothing happens", x, 2, 1, 6, 6, 6);
    }

    private static void pastesForwardAndBackward() {
        HandLine x = line();
        put(x, 0, 3, 1, 2, 3, 4, 5);
        CHECK.due("paste(0, 0, 0, 1, 4)", x.paste(0, 0, 0, 1, 4), 0);
        has("forward, as they were", x, 0, 3, 1, 1, 2, 3, 4);
        CHECK.due("paste(0, 1, 0, 0, 4)", x.paste(0, 1, 0, 0, 4), 0);
        has("backward, as they were", x, 0, 3, 1, 2, 3, 4, 4);
        CHECK.due("paste(0, 0, 0, 0, 5)", x.paste(0, 0, 0, 0, 5), 0);
        has("to their own places", x, 0, 3, 1, 2, 3, 4, 4);
        CHECK.due("paste(0, 0, 0, 3, 2)", x.paste(0, 0, 0, 3, 2), 0);
        has("aside", x, 0, 3, 1, 2, 3, 1, 2);
    }

    /** What is pasted is not cut again, and keeps its sign. */
    private static void pastesOfWideNumbers() {
        for (int width = 0; width < 4; width++) {
            HandLine x = line();
            put(x, 0, width, -1, 5, 1L << (8 << width) - 2);
            put(x, 1, width, 5, 5);
            x.paste(0, 0, 1, 1, 1);
            CHECK.due("fits(1) of -1, WIDTH " + width, x.fits(1), -2);
            x.paste(0, 1, 1, 1, 1);
            CHECK.due("fits(1) of 5, WIDTH " + width, x.fits(1), 1);
            x.paste(0, 2, 1, 1, 1);
            CHECK.due("fits(1) of a great one, WIDTH " + width, x.fits(1), width == 0 ? 0 : -2);
        }
    }

    private static void pastesBeyond() {
        HandLine x = line();
        put(x, 0, 2, 1, 2, 3, 4);
        put(x, 1, 2, 5, 6);
        int[][] beyond = {{0, 0, 3}, {2, 0, 3}, {3, 0, 2}, {4, 0, 1}, {0, 1, 2}, {0, 2, 1}, {-1, 0, 1}, {0, -1, 1},
            {0, 0, -1}, {-1, 0, 2}, {0, -1, 2}, {5, 0, -1}, {0, 3, -1}, {GREATEST, 0, 1}, {0, GREATEST, 1},
            {0, 0, GREATEST}, {1, 1, GREATEST}, {GREATEST, GREATEST, GREATEST}, {LEAST, 0, 1}, {0, LEAST, 1},
            {0, 0, LEAST}, {1, 1, LEAST}, {LEAST, LEAST, LEAST}, {GREATEST, 0, GREATEST}, {0, 0, LEAST + 1}};
        for (int[] w : beyond) {
            CHECK.due("paste(0, " + w[0] + ", 1, " + w[1] + ", " + w[2] + ")", x.paste(0, w[0], 1, w[1], w[2]), -7);
        }
        has("nothing happens", x, 0, 2, 1, 2, 3, 4);
        has("nothing happens", x, 1, 2, 5, 6);
        CHECK.due("paste(0, 0, 0, 1, 4), beyond its own end", x.paste(0, 0, 0, 1, 4), -7);
        CHECK.due("paste(0, 1, 0, 0, 4), beyond its own end", x.paste(0, 1, 0, 0, 4), -7);
        has("nothing happens", x, 0, 2, 1, 2, 3, 4);
        CHECK.due("paste(0, 2, 1, 0, 2), just within", x.paste(0, 2, 1, 0, 2), 0);
        has("just within", x, 1, 2, 3, 4);
    }

    private static void pastesOfOtherWidths() {
        for (int from = 0; from < 4; from++) {
            for (int to = 0; to < 4; to++) {
                HandLine x = line();
                put(x, 0, from, 5, 6);
                put(x, 1, to, 7, 7);
                int due = from == to ? 0 : -8;
                CHECK.due("paste from WIDTH " + from + " to " + to, x.paste(0, 0, 1, 0, 1), due);
                CHECK.due("paste of 0 from WIDTH " + from + " to " + to, x.paste(0, 0, 1, 0, 0), due);
                CHECK.due("paste beyond from WIDTH " + from + " to " + to, x.paste(0, 0, 1, 0, 3),
                        from == to ? -7 : -8);
                has("its row", x, 1, to, from == to ? 5 : 7, 7);
            }
        }
    }

    private static void noSuchPaste() {
        HandLine x = line();
        put(x, 0, 2, 5, 5);
        for (int slot : new int[] {-1, 4, GREATEST, LEAST}) {
            CHECK.due("paste from " + slot, x.paste(slot, 0, 0, 0, 0), -2);
            CHECK.due("paste to " + slot, x.paste(0, 0, slot, 0, 0), -2);
            CHECK.due("paste from " + slot + " to it", x.paste(slot, 0, slot, 0, 0), -2);
            CHECK.due("paste from " + slot + " to nothing, -2 ahead of -6", x.paste(slot, 0, 1, 0, 0), -2);
            CHECK.due("paste from nothing to " + slot + ", -2 ahead of -6", x.paste(1, 0, slot, 0, 0), -2);
            CHECK.due("paste to " + slot + ", -2 ahead of -7", x.paste(0, -1, slot, 0, 0), -2);
        }
        for (int slot = 1; slot < 4; slot++) {
            CHECK.due("paste from nothing", x.paste(slot, 0, 0, 0, 0), -6);
            CHECK.due("paste to nothing", x.paste(0, 0, slot, 0, 0), -6);
            CHECK.due("paste from nothing to nothing", x.paste(slot, 0, slot, 0, 0), -6);
            CHECK.due("paste from nothing, -6 ahead of -7", x.paste(slot, -1, 0, 0, 0), -6);
            CHECK.due("paste to nothing, -6 ahead of -7", x.paste(0, 0, slot, 0, -1), -6);
        }
        CHECK.due("count(12)", x.count(12), 1);
        CHECK.due("nothing happens", x.fits(0), 1);
    }

    private static void staysWithoutBrigade() {
        HandLine x = line();
        put(x, 0, 0, 5, 5);
        x.brigade();
        CHECK.due("count(12), no BRIGADE", x.count(12), 1);
        CHECK.due("write, no BRIGADE", x.write(0, 1, 6), 0);
        CHECK.due("paste, no BRIGADE", x.paste(0, 1, 0, 0, 1), 0);
        Check.feed(x, "brigade seconds 60 buckets 8 size 9 back 0 odds 0;hand pace 1 spills 0;");
        x.brigade();
        CHECK.due("fits(0), 6 6", x.fits(0), 1);
    }
}
