/** Promises 1 to 8, 34 and 70: the TAPE, the BRIGADE's text, its FAULTS, HANDS and PAIRS. */
public final class TextTest {
    private static final String FIRST = "brigade seconds 4 buckets 1 size 1 back 0 odds 5;";
    private static final String HAND = "hand pace 2 spills 1;";
    private static final Check CHECK = new Check();

    public static void main(String[] args) {
        newObject();
        tape();
        goodTexts();
        bounds();
        faultsOfTokens();
        faultsOfNumbers();
        faultsOfNumber();
        allStays();
        handsAndPairs();
        counts();
        CHECK.finish();
    }

    private static void newObject() {
        HandLine x = new HandLine();
        CHECK.dueRow("count of a new object", x::count, 0, 0, 0, 0, 0, 0, 0, 0, 0, 0, 0, 0, 0, -1);
        CHECK.due("count(-1)", x.count(-1), -1);
        CHECK.due("out() of a new object", x.out(), -2);
        CHECK.due("fault(0) ahead of any", x.fault(0), 0);
        CHECK.due("fault(1) ahead of any", x.fault(1), -1);
        CHECK.due("fault(2)", x.fault(2), -1);
        CHECK.due("fault(-1)", x.fault(-1), -1);
    }

    private static void tape() {
        HandLine x = new HandLine();
        for (int i = 1; i <= 25; i++) {
            CHECK.due("feed " + i, x.feed(0, 0, 0, 0, 0), 20 * i);
        }
        CHECK.due("feed beyond 500", x.feed(0, 0, 0, 0, 0), -1);
        CHECK.due("count(11) then", x.count(11), 500);
        CHECK.due("end(501)", x.end(501), -1);
        CHECK.due("end(-1)", x.end(-1), -1);
        CHECK.due("count(11) still", x.count(11), 500);
        CHECK.due("end(481)", x.end(481), 481);
        CHECK.due("feed with 481", x.feed(0, 0, 0, 0, 0), -1);
        CHECK.due("end(480)", x.end(480), 480);
        CHECK.due("feed with 480", x.feed(0, 0, 0, 0, 0), 500);
        CHECK.due("end(500) of 500", x.end(500), 500);
        CHECK.due("count(11) still", x.count(11), 500);
        CHECK.due("end(0)", x.end(0), 0);
        CHECK.due("end(0) of 0", x.end(0), 0);
        CHECK.due("end(1)", x.end(1), -1);
        // "brigade seconds 4 bu" by its numbers: the highest byte comes first.
        CHECK.due("feed", x.feed(0x62726967, 0x61646520, 0x7365636f, 0x6e647320, 0x34206275), 20);
        CHECK.due("feed", x.feed(0x636b6574, 0x73203120, 0x73697a65, 0x20312062, 0x61636b20), 40);
        CHECK.due("feed", x.feed(0x30206f64, 0x64732035, 0x3b808182, 0x83848586, 0x8788898a), 60);
        CHECK.due("end(49)", x.end(49), 49);
        CHECK.due("brigade()", x.brigade(), 1);
        CHECK.due("count(11) behind it", x.count(11), 0);
        CHECK.due("count(4)", x.count(4), 5);
    }

    private static void good(String text, int lines) {
        HandLine x = new HandLine();
        Check.feed(x, text);
        CHECK.due("brigade() of " + text, x.brigade(), lines);
        CHECK.due("fault(0) of " + text, x.fault(0), 0);
        CHECK.due("fault(1) of " + text, x.fault(1), -1);
        CHECK.due("count(10) of " + text, x.count(10), lines);
    }

    private static void faulty(String text, int fault, int place) {
        HandLine x = new HandLine();
        Check.feed(x, text);
        CHECK.due("brigade() of " + text, x.brigade(), -4);
        CHECK.due("fault(0) of " + text, x.fault(0), fault);
        CHECK.due("fault(1) of " + text, x.fault(1), place);
        CHECK.due("count(11) of " + text, x.count(11), text.length());
    }

    private static void goodTexts() {
        good("", 0);
        good(" \n ", 0);
        good(FIRST, 1);
        good("brigade\nseconds4buckets1size1back0odds5;hand pace2spills1 ;", 2);
        good("brigade seconds 0000000000000000000060 buckets 08 size 030 back 00020 odds 010 ;", 1);
        good(FIRST + HAND + HAND + "together 1 0;apart 0 1;" + HAND + "fire heat 999 grows 9;fire heat 1 grows 0;", 8);
        good(FIRST + HAND.repeat(6) + "apart 0 5;".repeat(5), 12);
        HandLine x = Check.told(FIRST + HAND);
        CHECK.due("count(10)", x.count(10), 2);
        CHECK.due("brigade() of the empty TAPE", x.brigade(), 0);
        CHECK.due("no BRIGADE then", x.out(), -2);
        CHECK.due("count(0) then", x.count(0), 0);
        Check.feed(x, FIRST + HAND);
        x.brigade();
        x.paces(0, 6);
        x.rest(0, 0, 4);
        Check.feed(x, FIRST + HAND);
        CHECK.due("brigade() in place of another", x.brigade(), 2);
        CHECK.due("nothing done", x.count(9), 0);
        CHECK.due("nothing done", x.hand(0, 0), 2);
        CHECK.due("nothing done", x.thrown(3), 1);
    }

    /** Both bounds of each number of the first LINE, a hand and a fire stand; one beyond is FAULT 2 there. */
    private static void bounds() {
        String[] words = {"brigade seconds ", " buckets ", " size ", " back ", " odds ", ";hand pace ", " spills ",
            ";fire heat ", " grows "};
        int[] least = {1, 1, 1, 0, 0, 1, 0, 1, 0};
        int[] most = {60, 8, 30, 20, 10, 6, 9, 999, 9};
        for (int k = 0; k < words.length; k++) {
            for (int v : new int[] {least[k] - 1, least[k], most[k], most[k] + 1}) {
                StringBuilder sb = new StringBuilder();
                int place = 0;
                for (int i = 0; i < words.length; i++) {
                    sb.append(words[i]);
                    place = i == k ? sb.length() : place;
                    sb.append(i == k ? v : 1);
                }
                String text = sb.append(';').toString();
                if (v < 0) {
                    faulty(text, 1, place);
                } else if (v < least[k] || v > most[k]) {
                    faulty(text, 2, place);
                } else {
                    good(text, 3);
                }
            }
        }
    }

    private static void faultsOfTokens() {
        faulty("x", 1, 0);
        faulty(";", 1, 0);
        faulty("7", 1, 0);
        faulty("  hand pace 1 spills 1;", 1, 2);
        faulty(" fire heat 1 grows 1;", 1, 1);
        faulty("brigade", 1, 7);
        faulty("brigade  ", 1, 9);
        faulty("brigades seconds 4", 1, 0);
        faulty("brigade seconds ;", 1, 16);
        faulty("brigade buckets 4", 1, 8);
        faulty("Brigade", 1, 0);
        faulty("frigade seconds 4", 1, 0);
        faulty("brigadx seconds 4", 1, 0);
        faulty("brigade\tseconds", 1, 7);
        faulty("brigade\rseconds", 1, 7);
        faulty("brigade seconds -4", 1, 16);
        faulty("brigade \u00e9", 1, 8);
        faulty(FIRST.substring(0, 48), 1, 48);
        faulty(FIRST.substring(0, 48) + "  ", 1, 50);
        faulty(FIRST + ";", 1, 49);
        faulty(FIRST + FIRST, 1, 49);
        faulty(FIRST + "seconds", 1, 49);
        faulty(FIRST + "hands pace", 1, 49);
        faulty(FIRST + "hand pace 1", 1, 60);
        faulty(FIRST + "hand 1", 1, 54);
        faulty(FIRST + "hand pace 1 spills 1 hand", 1, 70);
        faulty(FIRST + HAND + "together 0 ;", 1, 81);
        faulty(FIRST + HAND + "together 0 x", 1, 81);
        faulty(FIRST + HAND + HAND + "together 0 1 1;", 1, 104);
        faulty(FIRST + "fire heat 1 ;", 1, 61);
        faulty(FIRST + "\u0000", 1, 49);
        faulty(FIRST + "\u00ff", 1, 49);
    }

    private static void faultsOfNumbers() {
        faulty("brigade seconds 99999999999999999999999 buckets", 2, 16);
        faulty("brigade seconds 4294967297 buckets", 2, 16);
        faulty("brigade seconds 18446744073709551617 buckets", 2, 16);
        faulty("brigade seconds 0 x", 2, 16);
        faulty(FIRST + "together 0 1;", 2, 58);
        faulty(FIRST + HAND + "apart 0 0;", 2, 78);
        faulty(FIRST + HAND + "apart 0 1;" + HAND, 2, 78);
        faulty(FIRST + HAND + "apart 1 0;", 2, 76);
        faulty(FIRST + HAND + HAND + "together 1 1;", 2, 102);
        faulty(FIRST + HAND + HAND + "together 1 01;", 2, 102);
        faulty(FIRST + HAND + HAND + "together 1 2;", 2, 102);
    }

    private static void faultsOfNumber() {
        faulty(FIRST + HAND.repeat(6) + "hand", 3, 49 + 6 * 21);
        faulty(FIRST + HAND.repeat(6) + "\nhand pace 7", 3, 50 + 6 * 21);
        faulty(FIRST + HAND.repeat(6) + "x", 1, 49 + 6 * 21);
        String five = FIRST + HAND + HAND + "apart 0 1;".repeat(4) + "together 0 1;";
        good(five, 8);
        faulty(five + "apart", 3, five.length());
        faulty(five + "together 0 0;", 3, five.length());
    }

    private static void allStays() {
        HandLine x = Check.told(FIRST + HAND);
        x.paces(0, 1);
        Check.feed(x, "brigade!");
        CHECK.due("brigade()", x.brigade(), -4);
        CHECK.due("fault(0)", x.fault(0), 1);
        CHECK.due("fault(1)", x.fault(1), 7);
        CHECK.due("count(5) stays", x.count(5), 1);
        CHECK.due("count(9) stays", x.count(9), 1);
        CHECK.due("count(10) stays", x.count(10), 2);
        CHECK.due("hand(0, 0) stays", x.hand(0, 0), 1);
        CHECK.due("the TAPE stays", x.count(11), 8);
        CHECK.due("end(0)", x.end(0), 0);
        CHECK.due("brigade()", x.brigade(), 0);
        CHECK.due("fault(0) of the latest", x.fault(0), 0);
        CHECK.due("fault(1) of the latest", x.fault(1), -1);
    }

    private static void handsAndPairs() {
        HandLine x = Check.told(FIRST + "hand pace 3 spills 9;hand pace 1 spills 0;hand pace 6 spills 4;"
                + "together 1 0;apart 2 1;together 0 2;apart 0 2;");
        CHECK.dueRow("pace", h -> x.hand(h, 0), 3, 1, 6, -2);
        CHECK.dueRow("spills", h -> x.hand(h, 1), 9, 0, 4, -2);
        CHECK.due("hand(-1, 0)", x.hand(-1, 0), -2);
        CHECK.due("hand(0, 2)", x.hand(0, 2), -2);
        CHECK.due("hand(0, -1)", x.hand(0, -1), -2);
        CHECK.dueRow("pair's first", p -> x.pair(p, 0), 1, 2, 0, 0, -2);
        CHECK.dueRow("pair's other", p -> x.pair(p, 1), 0, 1, 2, 2, -2);
        CHECK.dueRow("pair's kind", p -> x.pair(p, 2), 1, 0, 1, 0, -2);
        CHECK.due("pair(-1, 0)", x.pair(-1, 0), -2);
        CHECK.due("pair(0, 3)", x.pair(0, 3), -2);
        CHECK.due("pair(0, -1)", x.pair(0, -1), -2);
        CHECK.dueRow("keeps", x::keeps, 1, 0, 0, 1, -2);
        CHECK.due("keeps(-1)", x.keeps(-1), -2);
        CHECK.due("kept()", x.kept(), 9);
        x.paces(0, 5);
        CHECK.due("pace as now", x.hand(0, 0), 5);
        CHECK.due("kept() without BRIGADE", new HandLine().kept(), -2);
        CHECK.due("kept() without PAIRS", Check.told(FIRST).kept(), 0);
    }

    private static void counts() {
        HandLine x = Check.told("brigade seconds 60 buckets 8 size 30 back 20 odds 10;" + HAND + HAND + HAND
                + "together 0 1;fire heat 5 grows 6;apart 0 2;fire heat 999 grows 9;");
        x.rest(0, 0, 1);
        x.feed(1, 2, 3, 4, 5);
        x.row(3, 0, 0);
        x.row(1, 3, 60);
        CHECK.dueRow("count", x::count, 60, 8, 30, 20, 10, 3, 2, 999, 9, 1, 8, 20, 2, -1);
        CHECK.due("count(-1)", x.count(-1), -1);
        CHECK.due("count of the least", x.count(Integer.MIN_VALUE), -1);
        CHECK.due("count of the greatest", x.count(Integer.MAX_VALUE), -1);
    }
}
