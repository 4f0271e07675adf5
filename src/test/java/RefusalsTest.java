import java.util.ArrayList;
import java.util.List;
import java.util.function.Supplier;
import java.util.function.ToLongFunction;

/**
 * Each refusal, of all promises, with what stays as it was behind it: of two objects told alike one is asked what is
 * refused, and then both answer alike. Questions that are answered change nothing either.
 */
public final class RefusalsTest {
    private static final int LEAST = Integer.MIN_VALUE;
    private static final int GREATEST = Integer.MAX_VALUE;
    private static final String RICH = "brigade seconds 12 buckets 2 size 10 back 1 odds 5;"
            + "hand pace 1 spills 1;hand pace 3 spills 0;hand pace 2 spills 2;together 0 1;apart 0 2;"
            + "fire heat 20 grows 1;";
    private static final Check CHECK = new Check();
    private static final List<Call> CALLS = new ArrayList<>();

    public static void main(String[] args) {
        refusedOfTape();
        refusedOfText();
        refusedOfSeconds();
        refusedOverall();
        refusedOtherwise();
        refusedOrders();
        refusedSeen();
        refusedSets();
        refusedSlips();
        refusedActs();
        refusedImages();
        refusedSlots();
        hold("of much", RefusalsTest::rich);
        fullTape();
        hold("of a full TAPE", RefusalsTest::crammed);
        fullActs();
        hold("of 30 acts", RefusalsTest::busy);
        noActs();
        hold("of no acts", RefusalsTest::calm);
        noBrigade();
        hold("of no BRIGADE", RefusalsTest::fresh);
        noBrigade();
        hold("of a BRIGADE taken away", RefusalsTest::emptied);
        answered();
        CHECK.finish();
    }

    /** Three acts, a TAPE with a FAULT that was told, two images (one of no BRIGADE), three rows. */
    private static HandLine rich() {
        HandLine x = calm();
        x.paces(1, 2);
        x.rest(0, 1, 2);
        x.image(0);
        x.paces(2, 1);
        put(x, 0, 0, 6, 1);
        put(x, 1, 0, 0, 0, 11, 2);
        put(x, 2, 2, 5);
        Check.feed(x, "brigade seconds 4");
        x.brigade();
        return x;
    }

    private static HandLine calm() {
        HandLine x = new HandLine();
        x.image(1);
        Check.feed(x, RICH);
        x.brigade();
        return x;
    }

    private static HandLine busy() {
        HandLine x = calm();
        for (int i = 0; i < 15; i++) {
            x.paces(1, 2 + i % 3);
            x.rest(2, i % 12, 1);
        }
        return x;
    }

    /** A good text in 481 bytes: twenty more would not fit. */
    private static HandLine crammed() {
        HandLine x = calm();
        Check.feed(x, RICH.replace("12", " 7") + " ".repeat(481 - RICH.length()));
        return x;
    }

    private static HandLine fresh() {
        return new HandLine();
    }

    private static HandLine emptied() {
        HandLine x = rich();
        x.end(0);
        x.brigade();
        return x;
    }

    private static void put(HandLine x, int slot, int width, long... numbers) {
        x.row(slot, width, numbers.length);
        for (int i = 0; i < numbers.length; i++) {
            x.write(slot, i, numbers[i]);
        }
    }

    private static void due(long answer, String name, ToLongFunction<HandLine> made) {
        CALLS.add(new Call(name, made, answer));
    }

    private static void hold(String kind, Supplier<HandLine> maker) {
        List<String> want = View.of(maker.get());
        for (Call call : CALLS) {
            HandLine x = maker.get();
            CHECK.due(call.name() + " " + kind, call.made().applyAsLong(x), call.due());
            stays(call.name() + " " + kind, x, want);
        }
        CALLS.clear();
    }

    private static void stays(String behind, HandLine x, List<String> want) {
        String difference = View.difference(View.of(x), want);
        CHECK.due("what stays behind " + behind + ": " + difference, difference.length(), 0);
    }

    private static void refusedOfTape() {
        due(-1, "end(18)", x -> x.end(18));
        due(-1, "end(-1)", x -> x.end(-1));
        due(-1, "end(500)", x -> x.end(500));
        due(-1, "end of the greatest", x -> x.end(GREATEST));
        due(-1, "end of the least", x -> x.end(LEAST));
        due(-4, "brigade()", HandLine::brigade);
        for (int what : new int[] {-1, 2, GREATEST, LEAST}) {
            due(-1, "fault(" + what + ")", x -> x.fault(what));
        }
        for (int what : new int[] {-1, 13, GREATEST, LEAST}) {
            due(-1, "count(" + what + ")", x -> x.count(what));
        }
    }

    private static void refusedOfText() {
        for (int hand : new int[] {-1, 3, 6, GREATEST, LEAST}) {
            due(-2, "hand(" + hand + ", 0)", x -> x.hand(hand, 0));
            due(-2, "hand(" + hand + ", 1)", x -> x.hand(hand, 1));
        }
        for (int what : new int[] {-1, 2, GREATEST, LEAST}) {
            due(-2, "hand(0, " + what + ")", x -> x.hand(0, what));
        }
        for (int pair : new int[] {-1, 2, 5, GREATEST, LEAST}) {
            due(-2, "pair(" + pair + ", 0)", x -> x.pair(pair, 0));
            due(-2, "pair(" + pair + ", 1)", x -> x.pair(pair, 1));
            due(-2, "pair(" + pair + ", 2)", x -> x.pair(pair, 2));
            due(-2, "keeps(" + pair + ")", x -> x.keeps(pair));
        }
        for (int what : new int[] {-1, 3, GREATEST, LEAST}) {
            due(-2, "pair(0, " + what + ")", x -> x.pair(0, what));
        }
    }

    private static void refusedOfSeconds() {
        for (int s : new int[] {-1, 12, 60, GREATEST, LEAST}) {
            due(-2, "holds(0, " + s + ")", x -> x.holds(0, s));
            due(-2, "held(0, " + s + ")", x -> x.held(0, s));
            due(-2, "busy(" + s + ")", x -> x.busy(s));
            due(-2, "waits(" + s + ")", x -> x.waits(s));
            due(-2, "river(" + s + ")", x -> x.river(s));
            due(-2, "thrown(" + s + ")", x -> x.thrown(s));
            due(-2, "water(" + s + ")", x -> x.water(s));
            due(-2, "spilt(" + s + ")", x -> x.spilt(s));
            due(-2, "fire(" + s + ")", x -> x.fire(s));
            due(-2, "ready(" + s + ")", x -> x.ready(s));
            due(-2, "road(" + s + ")", x -> x.road(s));
            due(-2, "left(" + s + ")", x -> x.left(s));
        }
    }

    private static void refusedOverall() {
        for (int hand : new int[] {-1, 3, 6, GREATEST, LEAST}) {
            due(-2, "holds(" + hand + ", 0)", x -> x.holds(hand, 0));
            due(-2, "held(" + hand + ", 0)", x -> x.held(hand, 0));
            due(-2, "stays(" + hand + ")", x -> x.stays(hand));
            due(-2, "idle(" + hand + ")", x -> x.idle(hand));
            due(-2, "starts(" + hand + ")", x -> x.starts(hand));
            due(-2, "passes(" + hand + ")", x -> x.passes(hand));
            due(-2, "loses(" + hand + ")", x -> x.loses(hand));
        }
        for (int n : new int[] {-1, LEAST}) {
            due(-2, "when(" + n + ")", x -> x.when(n));
            due(-2, "until(" + n + ")", x -> x.until(n));
        }
        due(-1, "when of the greatest", x -> x.when(GREATEST));
        due(-1, "until of the greatest", x -> x.until(GREATEST));
    }

    private static void refusedOtherwise() {
        for (int n : new int[] {-1, 0, 9, GREATEST, LEAST}) {
            due(-2, "with(" + n + ")", x -> x.with(n));
        }
        for (int hand : new int[] {-1, 3, 6, GREATEST, LEAST}) {
            due(-2, "ease(" + hand + ")", x -> x.ease(hand));
            due(-2, "without(" + hand + ")", x -> x.without(hand));
        }
        for (int what : new int[] {-1, 2, GREATEST, LEAST}) {
            due(-2, "rate(" + what + ")", x -> x.rate(what));
        }
    }

    private static void refusedOrders() {
        for (int i : new int[] {-1, 3, 6, GREATEST, LEAST}) {
            due(-2, "place(" + i + ")", x -> x.place(i));
        }
    }

    /** SLOT 3 has nothing, SLOT 2 a row of one number. */
    private static void refusedSeen() {
        for (int slot : new int[] {-1, 4, 2, GREATEST, LEAST}) {
            due(-2, "fits(" + slot + ")", x -> x.fits(slot));
            due(-2, "may(" + slot + ", 0)", x -> x.may(slot, 0));
            due(-2, "ask(" + slot + ")", x -> x.ask(slot));
            due(-2, "leaves(" + slot + ")", x -> x.leaves(slot));
        }
        for (int hand : new int[] {-1, 3, 6, GREATEST, LEAST}) {
            due(-2, "may(0, " + hand + ")", x -> x.may(0, hand));
            due(-2, "may(3, " + hand + "), ahead of -6", x -> x.may(3, hand));
        }
        due(-6, "fits(3)", x -> x.fits(3));
        due(-6, "may(3, 0)", x -> x.may(3, 0));
        due(-6, "ask(3)", x -> x.ask(3));
        due(-6, "leaves(3)", x -> x.leaves(3));
    }

    private static void refusedSets() {
        for (int set : new int[] {-1, 8, 64, GREATEST, LEAST}) {
            due(-2, "brings(" + set + ")", x -> x.brings(set));
        }
        for (int hand : new int[] {-1, 3, 6, GREATEST, LEAST}) {
            due(-2, "share(" + hand + ", 0)", x -> x.share(hand, 0));
            due(-2, "rests(" + hand + ", 0)", x -> x.rests(hand, 0));
            due(-2, "rests(0, " + hand + ")", x -> x.rests(0, hand));
            due(-1000, "gets(" + hand + ", 0, 0, 0)", x -> x.gets(hand, 0, 0, 0));
            due(-1000, "gets(0, " + hand + ", 0, 0)", x -> x.gets(0, hand, 0, 0));
        }
        for (int what : new int[] {-1, 2, GREATEST, LEAST}) {
            due(-2, "share(0, " + what + ")", x -> x.share(0, what));
            due(-1000, "gets(0, 1, " + what + ", 0)", x -> x.gets(0, 1, what, 0));
            due(-1000, "gets(0, 1, 0, " + what + ")", x -> x.gets(0, 1, 0, what));
        }
        for (int hand = 0; hand < 3; hand++) {
            int twice = hand;
            due(-2, "rests of one twice, " + hand, x -> x.rests(twice, twice));
            due(-1000, "gets of one twice, " + hand, x -> x.gets(twice, twice, 0, 1));
        }
    }

    private static void refusedSlips() {
        for (int s : new int[] {-1, 8, 11, 12, GREATEST, LEAST}) {
            due(-2, "chance(" + s + ", 0, 0)", x -> x.chance(s, 0, 0));
            due(-2, "mean(" + s + ", 0)", x -> x.mean(s, 0));
        }
        for (int n : new int[] {-1, 10, GREATEST, LEAST}) {
            due(-2, "chance(0, " + n + ", 0)", x -> x.chance(0, n, 0));
        }
        for (int what : new int[] {-1, 2, GREATEST, LEAST}) {
            due(-2, "chance(0, 0, " + what + ")", x -> x.chance(0, 0, what));
            due(-2, "mean(0, " + what + ")", x -> x.mean(0, what));
        }
        for (int seed : new int[] {-1, 2_000_000_001, GREATEST, LEAST}) {
            due(-2, "drawn(" + seed + ", 0)", x -> x.drawn(seed, 0));
            due(-2, "luck(" + seed + ", 1)", x -> x.luck(seed, 1));
        }
        for (int what : new int[] {-1, 3, GREATEST, LEAST}) {
            due(-2, "drawn(0, " + what + ")", x -> x.drawn(0, what));
        }
        for (int n : new int[] {-1, 0, 21, GREATEST, LEAST}) {
            due(-2, "luck(0, " + n + ")", x -> x.luck(0, n));
        }
    }

    private static void refusedActs() {
        for (int hand : new int[] {-1, 3, 6, GREATEST, LEAST}) {
            due(-2, "rest(" + hand + ", 0, 1)", x -> x.rest(hand, 0, 1));
            due(-2, "paces(" + hand + ", 1)", x -> x.paces(hand, 1));
        }
        for (int s : new int[] {-1, 12, 60, GREATEST, LEAST}) {
            due(-2, "rest(0, " + s + ", 1)", x -> x.rest(0, s, 1));
        }
        for (int n : new int[] {-1, 0, 10, GREATEST, LEAST}) {
            due(-2, "rest(0, 0, " + n + ")", x -> x.rest(0, 0, n));
        }
        for (int n : new int[] {-1, 0, 7, GREATEST, LEAST}) {
            due(-2, "paces(0, " + n + ")", x -> x.paces(0, n));
        }
        for (int n : new int[] {-1, 0, 31, GREATEST, LEAST}) {
            due(-2, "fills(" + n + "), ahead of -5", x -> x.fills(n));
        }
        for (int n : new int[] {1, 10, 30}) {
            due(-5, "fills(" + n + ") with acts", x -> x.fills(n));
        }
    }

    private static void refusedImages() {
        for (int k : new int[] {-1, 3, GREATEST, LEAST}) {
            due(-2, "image(" + k + ")", x -> x.image(k));
            due(-2, "back(" + k + ")", x -> x.back(k));
        }
        due(-6, "back(2)", x -> x.back(2));
    }

    private static void refusedSlots() {
        for (int slot : new int[] {-1, 4, GREATEST, LEAST}) {
            due(-2, "row(" + slot + ", 0, 1)", x -> x.row(slot, 0, 1));
            due(-2, "row(" + slot + ", 0, -1), ahead of -3", x -> x.row(slot, 0, -1));
            due(-2, "write(" + slot + ", 0, 1)", x -> x.write(slot, 0, 1));
            due(-2, "paste from " + slot, x -> x.paste(slot, 0, 0, 0, 1));
            due(-2, "paste to " + slot, x -> x.paste(0, 0, slot, 0, 1));
            due(-2, "paste from " + slot + " to nothing, ahead of -6", x -> x.paste(slot, 0, 3, 0, 1));
            due(-2, "paste from nothing to " + slot + ", ahead of -6", x -> x.paste(3, 0, slot, 0, 1));
        }
        for (int width : new int[] {-1, 4, GREATEST, LEAST}) {
            due(-2, "row(0, " + width + ", 1)", x -> x.row(0, width, 1));
            due(-2, "row(0, " + width + ", -1), ahead of -3", x -> x.row(0, width, -1));
        }
        due(-2, "row(0, 0, 61)", x -> x.row(0, 0, 61));
        due(-2, "row(3, 0, 61)", x -> x.row(3, 0, 61));
        due(-2, "row of the greatest", x -> x.row(0, 0, GREATEST));
        due(-3, "row(0, 3, -1)", x -> x.row(0, 3, -1));
        due(-3, "row(3, 0, -1)", x -> x.row(3, 0, -1));
        due(-3, "row of the least", x -> x.row(0, 0, LEAST));
        due(-6, "write(3, 0, 1)", x -> x.write(3, 0, 1));
        due(-6, "write(3, -1, 1), ahead of -7", x -> x.write(3, -1, 1));
        for (int i : new int[] {-1, 2, 60, GREATEST, LEAST}) {
            due(-7, "write(0, " + i + ", 1)", x -> x.write(0, i, 1));
        }
        refusedPastes();
    }

    private static void refusedPastes() {
        due(-6, "paste from nothing", x -> x.paste(3, 0, 0, 0, 1));
        due(-6, "paste to nothing", x -> x.paste(0, 0, 3, 0, 1));
        due(-6, "paste from nothing to itself", x -> x.paste(3, 0, 3, 0, 0));
        due(-6, "paste to nothing, ahead of -7", x -> x.paste(0, 9, 3, 0, 1));
        due(-8, "paste to another WIDTH", x -> x.paste(0, 0, 2, 0, 1));
        due(-8, "paste from another WIDTH", x -> x.paste(2, 0, 0, 0, 1));
        due(-8, "paste of 0 to another WIDTH", x -> x.paste(0, 0, 2, 0, 0));
        due(-8, "paste to another WIDTH, ahead of -7", x -> x.paste(0, 2, 2, 1, 1));
        int[][] beyond = {{2, 0, 1}, {1, 0, 2}, {0, 0, 3}, {-1, 0, 1}, {0, -1, 1}, {0, 4, 1}, {0, 3, 2}, {0, 0, -1},
            {-1, 0, 0}, {0, -1, 0}, {-1, 1, 2}, {1, -1, 1}, {GREATEST, 0, 1}, {0, GREATEST, 1}, {0, 0, GREATEST},
            {1, 0, GREATEST}, {0, 1, GREATEST}, {LEAST, 0, 1}, {0, LEAST, 1}, {0, 0, LEAST}, {1, 1, LEAST},
            {GREATEST, GREATEST, GREATEST}, {LEAST, LEAST, LEAST}};
        for (int[] w : beyond) {
            due(-7, "paste(0, " + w[0] + ", 1, " + w[1] + ", " + w[2] + ")", x -> x.paste(0, w[0], 1, w[1], w[2]));
        }
        // As many as SLOT 1 has, but more than SLOT 0 has, and the other way round.
        due(-7, "paste(1, 0, 0, 0, 4)", x -> x.paste(1, 0, 0, 0, 4));
        due(-7, "paste(0, 0, 1, 0, 4)", x -> x.paste(0, 0, 1, 0, 4));
        due(-7, "paste within, beyond its end", x -> x.paste(1, 0, 1, 1, 4));
        due(-7, "paste within, from beyond its end", x -> x.paste(1, 1, 1, 0, 4));
    }

    private static void fullTape() {
        due(-1, "feed", x -> x.feed(1, 2, 3, 4, 5));
        due(-1, "end(482)", x -> x.end(482));
        due(481, "end(481), all of it", x -> x.end(481));
    }

    private static void fullActs() {
        due(-5, "rest", x -> x.rest(0, 0, 1));
        due(-5, "paces", x -> x.paces(0, 6));
        due(-5, "paces, as it is", x -> x.paces(0, 1));
        due(-5, "fills", x -> x.fills(5));
        due(-2, "rest of no HAND, ahead of -5", x -> x.rest(3, 0, 1));
        due(-2, "rest in no SECOND, ahead of -5", x -> x.rest(0, 12, 1));
        due(-2, "rest in no SECONDS, ahead of -5", x -> x.rest(0, 0, 0));
        due(-2, "paces of no HAND, ahead of -5", x -> x.paces(3, 1));
        due(-2, "paces, no such, ahead of -5", x -> x.paces(0, 7));
        due(-2, "fills, no such, ahead of -5", x -> x.fills(31));
    }

    private static void noActs() {
        due(-5, "undo()", HandLine::undo);
        due(0, "anew()", HandLine::anew);
        due(10, "fills(10), as it is", x -> x.fills(10));
    }

    private static void noBrigade() {
        for (Call call : Questions.ofBrigade()) {
            due(call.due(), call.name(), call.made());
        }
        due(-2, "rest(0, 0, 1)", x -> x.rest(0, 0, 1));
        due(-2, "paces(0, 1)", x -> x.paces(0, 1));
        due(-2, "undo(), ahead of -5", HandLine::undo);
        due(-2, "anew()", HandLine::anew);
        due(-2, "fills(1)", x -> x.fills(1));
    }

    private static void answered() {
        List<String> want = View.of(rich());
        for (Call call : Questions.ofBrigade()) {
            HandLine x = rich();
            CHECK.due(call.name() + " is answered", call.made().applyAsLong(x) == call.due() ? 1 : 0, 0);
            stays(call.name() + ", answered", x, want);
        }
    }
}
