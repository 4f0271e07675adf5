/** The edges that the Terms name of the text, and promises 1 to 8, 34 and 70: each sentence by itself. */
public final class TextEdgesTest {
    private static final String FIRST = "brigade seconds 4 buckets 1 size 1 back 0 odds 5;";
    private static final String HAND = "hand pace 2 spills 1;";
    private static final int LEAST = Integer.MIN_VALUE;
    private static final int GREATEST = Integer.MAX_VALUE;
    private static final Check CHECK = new Check();

    public static void main(String[] args) {
        newObject();
        feedToFiveHundred();
        feedHighestFirst();
        feedBehind();
        endOfFirstBytes();
        brigadeOfNothing();
        brigadeInPlaceOfAnother();
        brigadeOfFiveHundred();
        brigadeLeavesTheRest();
        faultOfTheLatest();
        blanks();
        longestTokens();
        signsThatAreNone();
        placeOfTheEnd();
        wordsWhereTheyCantStand();
        ofOnePlaceTheLeast();
        firstByPlace();
        numbersOutOfBounds();
        handsOfPairs();
        seventhHand();
        sixthPair();
        lastFire();
        handsAndPairs();
        neighbours();
        counts();
        CHECK.finish();
    }

    private static void good(String text, int lines) {
        HandLine x = new HandLine();
        Check.feed(x, text);
        CHECK.due("brigade() of " + text, x.brigade(), lines);
        CHECK.due("fault(0) of " + text, x.fault(0), 0);
        CHECK.due("fault(1) of " + text, x.fault(1), -1);
        CHECK.due("the TAPE behind " + text, x.count(11), 0);
    }

    private static void faulty(String text, int fault, int place) {
        HandLine x = new HandLine();
        Check.feed(x, text);
        CHECK.due("brigade() of " + text, x.brigade(), -4);
        CHECK.due("fault(0) of " + text, x.fault(0), fault);
        CHECK.due("fault(1) of " + text, x.fault(1), place);
        CHECK.due("the TAPE behind " + text, x.count(11), text.length());
        CHECK.due("LINES behind " + text, x.count(10), 0);
    }

    private static void newObject() {
        HandLine x = new HandLine();
        for (Call call : Questions.ofBrigade()) {
            CHECK.due(call.name() + " of a new object", call.made().applyAsLong(x), call.due());
        }
        for (int what = 0; what <= 12; what++) {
            CHECK.due("count(" + what + ") of a new object", x.count(what), 0);
        }
        for (int slot = 0; slot < 4; slot++) {
            CHECK.due("SLOT " + slot + " of a new object", x.write(slot, 0, 0), -6);
        }
        for (int k = 0; k < 3; k++) {
            CHECK.due("IMAGE " + k + " of a new object", x.back(k), -6);
        }
        CHECK.due("end(0) of a new object", x.end(0), 0);
        CHECK.due("end(1) of a new object", x.end(1), -1);
        CHECK.due("fault(0) ahead of any", x.fault(0), 0);
        CHECK.due("fault(1) ahead of any", x.fault(1), -1);
        CHECK.due("NONE", HandLine.NONE, -1);
    }

    private static void feedToFiveHundred() {
        HandLine x = new HandLine();
        for (int i = 1; i <= 25; i++) {
            CHECK.due("feed, the " + i + "th", x.feed(0, 0, 0, 0, 0), 20 * i);
        }
        CHECK.due("feed, the 26th", x.feed(0, 0, 0, 0, 0), -1);
        CHECK.due("none come", x.count(11), 500);
        for (int n = 499; n >= 481; n--) {
            x.end(n);
            CHECK.due("feed behind " + n, x.feed(0, 0, 0, 0, 0), -1);
            CHECK.due("none come behind " + n, x.count(11), n);
        }
        x.end(480);
        CHECK.due("feed behind 480", x.feed(0, 0, 0, 0, 0), 500);
    }

    /** One number alone is not blank: its bytes stand where they are due, and so does the FAULT. */
    private static void feedHighestFirst() {
        int blank = 0x20202020;
        int[] signs = {0x01202020, 0x20012020, 0x20200120, 0x20202001};
        for (int i = 0; i < 20; i++) {
            int[] n = {blank, blank, blank, blank, blank};
            n[i / 4] = signs[i % 4];
            HandLine x = new HandLine();
            CHECK.due("feed", x.feed(n[0], n[1], n[2], n[3], n[4]), 20);
            CHECK.due("brigade()", x.brigade(), -4);
            CHECK.due("the place of byte " + i, x.fault(1), i);
        }
        HandLine x = new HandLine();
        x.feed(blank, LEAST, blank, blank, blank);
        x.brigade();
        CHECK.due("byte 128 is no TOKEN", x.fault(1), 4);
        HandLine y = new HandLine();
        y.feed(blank, 0x202020ff, blank, blank, -1);
        y.brigade();
        CHECK.due("byte 255 is no TOKEN", y.fault(1), 7);
        HandLine z = new HandLine();
        z.feed(blank, blank, blank, blank, 0x0a200a0a);
        CHECK.due("bytes 32 and 10 are blanks", z.brigade(), 0);
    }

    private static void feedBehind() {
        HandLine x = new HandLine();
        Check.feed(x, FIRST);
        // What was cut does not come again: twenty blanks stand behind the 49.
        CHECK.due("feed", x.feed(0x20202020, 0x20202020, 0x20202020, 0x20202020, 0x20202020), 69);
        CHECK.due("end(60)", x.end(60), 60);
        CHECK.due("feed", x.feed(0x01010101, 0x20202020, 0x20202020, 0x20202020, 0x20202020), 80);
        CHECK.due("brigade()", x.brigade(), -4);
        CHECK.due("fault(1)", x.fault(1), 60);
        CHECK.due("end(60)", x.end(60), 60);
        CHECK.due("brigade()", x.brigade(), 1);
    }

    private static void endOfFirstBytes() {
        HandLine x = new HandLine();
        x.feed(0, 0, 0, 0, 0);
        CHECK.due("end(21)", x.end(21), -1);
        CHECK.due("end(-1)", x.end(-1), -1);
        CHECK.due("end of the greatest", x.end(GREATEST), -1);
        CHECK.due("end of the least", x.end(LEAST), -1);
        CHECK.due("nothing happens", x.count(11), 20);
        CHECK.due("end(20), all of it", x.end(20), 20);
        CHECK.due("end(19)", x.end(19), 19);
        CHECK.due("end(20), the last is gone", x.end(20), -1);
        CHECK.due("count(11)", x.count(11), 19);
        CHECK.due("end(0)", x.end(0), 0);
        CHECK.due("end(1)", x.end(1), -1);
        CHECK.due("end(0) of none", x.end(0), 0);
        CHECK.due("brigade() of none", x.brigade(), 0);
    }

    private static void brigadeOfNothing() {
        for (String text : new String[] {"", " ", "\n", " \n \n", " ".repeat(500)}) {
            HandLine x = Check.told(FIRST + HAND + HAND + "apart 0 1;fire heat 9 grows 1;");
            x.paces(0, 3);
            Check.feed(x, text);
            CHECK.due("brigade() of blanks", x.brigade(), 0);
            for (int what = 0; what <= 12; what++) {
                CHECK.due("count(" + what + "), there is none then", x.count(what), 0);
            }
            for (Call call : Questions.ofBrigade()) {
                CHECK.due(call.name() + ", there is none then", call.made().applyAsLong(x), call.due());
            }
        }
    }

    private static void brigadeInPlaceOfAnother() {
        HandLine x = Check.told(FIRST + HAND + HAND + HAND + "apart 0 1;fire heat 9 grows 1;");
        x.fills(7);
        x.paces(0, 3);
        x.rest(1, 0, 9);
        Check.feed(x, "brigade seconds 3 buckets 2 size 5 back 1 odds 0;hand pace 1 spills 0;");
        CHECK.due("brigade()", x.brigade(), 2);
        CHECK.dueRow("count", x::count, 3, 2, 5, 1, 0, 1, 0, 0, 0, 0, 2, 0, 0);
        CHECK.due("the TAPE is empty then", x.end(1), -1);
        CHECK.due("HAND 1 is gone", x.hand(1, 0), -2);
        CHECK.due("PAIR 0 is gone", x.pair(0, 0), -2);
        CHECK.due("SECOND 3 is gone", x.thrown(3), -2);
        CHECK.due("nothing is done", x.undo(), -5);
        CHECK.due("paces are as told", x.hand(0, 0), 1);
        CHECK.dueRow("when", x::when, 1, 2, -1);
        CHECK.due("out(), without fire", x.out(), 0);
    }

    private static void brigadeOfFiveHundred() {
        String text = FIRST + HAND.repeat(6) + "apart 0 2;".repeat(5) + "fire heat 123 grows 4;";
        good(text + " ".repeat(500 - text.length()), 13);
        good(" ".repeat(500 - text.length()) + text, 13);
        String fires = FIRST + "fire heat 1 grows 1;".repeat(22);
        good(fires + " ".repeat(500 - fires.length()), 23);
        faulty(text + " ".repeat(499 - text.length()) + ";", 1, 499);
    }

    private static void brigadeLeavesTheRest() {
        HandLine x = new HandLine();
        x.row(1, 2, 3);
        x.image(2);
        Check.feed(x, FIRST + HAND);
        x.brigade();
        CHECK.due("SLOTS stay", x.count(12), 1);
        CHECK.due("a row stays", x.write(1, 2, 5), 0);
        CHECK.due("IMAGES stay", x.back(2), 0);
        CHECK.due("IMAGES stay", x.count(10), 0);
    }

    private static void faultOfTheLatest() {
        HandLine x = new HandLine();
        Check.feed(x, "  x");
        CHECK.due("fault(0), not read yet", x.fault(0), 0);
        CHECK.due("fault(1), not read yet", x.fault(1), -1);
        x.brigade();
        CHECK.due("fault(0)", x.fault(0), 1);
        CHECK.due("fault(1)", x.fault(1), 2);
        x.end(0);
        Check.feed(x, FIRST);
        CHECK.due("fault(0) stays", x.fault(0), 1);
        CHECK.due("fault(1) stays", x.fault(1), 2);
        x.brigade();
        CHECK.due("fault(0), without", x.fault(0), 0);
        CHECK.due("fault(1), without", x.fault(1), -1);
        for (int what : new int[] {-1, 2, GREATEST, LEAST}) {
            CHECK.due("fault(" + what + ")", x.fault(what), -1);
            CHECK.due("fault(" + what + ") ahead of any", new HandLine().fault(what), -1);
        }
        Check.feed(x, "brigade seconds 61");
        x.brigade();
        CHECK.due("fault(0), another", x.fault(0), 2);
        CHECK.due("fault(1), another", x.fault(1), 16);
        CHECK.due("fault(2) with a FAULT", x.fault(2), -1);
        CHECK.due("fault(-1) with a FAULT", x.fault(-1), -1);
        x.end(0);
        x.brigade();
        CHECK.due("fault(0) of the empty TAPE", x.fault(0), 0);
        CHECK.due("fault(1) of the empty TAPE", x.fault(1), -1);
    }

    private static void blanks() {
        good("\n " + FIRST.replace(" ", "\n  \n").replace(";", "\n;\n") + "\n", 1);
        good("brigade seconds4buckets1size1back0odds5;hand pace2spills1;", 2);
        // Two words need a blank between them, two numbers do, too.
        faulty("brigadeseconds 4", 1, 0);
        faulty(FIRST + HAND + HAND + "apart 01;", 1, 49 + 42 + 8);
    }

    private static void longestTokens() {
        faulty(FIRST + "handpace 2 spills 1;", 1, 49);
        faulty(FIRST + "han d pace 2 spills 1;", 1, 49);
        faulty("brigade seconds 6 0 buckets 1", 1, 18);
        faulty("brigade seconds 601 buckets 1", 2, 16);
        faulty(FIRST + "handy pace 2 spills 1;", 1, 49);
        faulty(FIRST + "hand pac 2 spills 1;", 1, 54);
        faulty(FIRST + "hand pacer 2 spills 1;", 1, 54);
        faulty(FIRST + "firee heat 1 grows 1;", 1, 49);
        faulty(FIRST + "hand pace 2 spills 1;;", 1, 70);
        faulty(FIRST + "hand pace 2spills1 1;", 1, 68);
    }

    /** The signs just beyond those that stand in a TOKEN or are blanks. */
    private static void signsThatAreNone() {
        int[] none = {0, 9, 11, 13, 31, 33, '/', ':', '<', '@', 'A', 'Z', '[', '`', '{', 127, 128, 160, 186, 255};
        for (int sign : none) {
            String at = String.valueOf((char) sign);
            faulty(at + FIRST, 1, 0);
            faulty("brigade" + at + "seconds 4", 1, 7);
            faulty("brigade seconds" + at + "4", 1, 15);
            faulty("brigade seconds 4" + at, 1, 17);
            faulty(FIRST + at, 1, 49);
            faulty(FIRST + " " + at, 1, 50);
        }
    }

    private static void placeOfTheEnd() {
        String text = FIRST + HAND + HAND + "together 0 1;fire heat 12 grows 3;";
        String[] ends = {"brigade ", "seconds ", "4 ", "buckets ", "size ", "back ", "odds ", "5", "hand ", "pace ",
            "2 ", "spills ", "together ", "0 ", "fire ", "heat ", "12 ", "grows ", "3"};
        for (String end : ends) {
            int n = text.indexOf(end) + end.length();
            faulty(text.substring(0, n), 1, n);
            faulty(text.substring(0, n) + " \n ", 1, n + 3);
        }
        // Behind a LINE's end nothing more need come.
        good(text, 5);
        good(text + " \n ", 5);
    }

    private static void wordsWhereTheyCantStand() {
        String[] words = {"hand", "together", "apart", "fire", "seconds", "buckets", "size", "back", "odds", "pace",
            "spills", "heat", "grows", ";", "7"};
        for (String word : words) {
            faulty(word, 1, 0);
            faulty("  " + word + " 0 1;", 1, 2);
            faulty("brigade seconds 4 " + word.repeat(2), 1, 18);
        }
        for (String word : new String[] {"brigade", "seconds", "buckets", "size", "back", "odds", "pace", "spills",
            "heat", "grows", ";", "7", "x"}) {
            faulty(FIRST + word, 1, 49);
            faulty(FIRST + HAND + " " + word + " 1;", 1, 71);
        }
        faulty(FIRST + FIRST, 1, 49);
        faulty(FIRST + "hand spills 1 pace 2;", 1, 54);
        faulty(FIRST + "fire grows 1 heat 2;", 1, 54);
        faulty("brigade buckets 1 seconds 4", 1, 8);
        faulty("brigade seconds x", 1, 16);
        faulty("brigade seconds ;", 1, 16);
        faulty("brigade 4", 1, 8);
    }

    private static void ofOnePlaceTheLeast() {
        // A number beyond all bounds where no number can stand.
        faulty("99999", 1, 0);
        faulty("brigade 99999", 1, 8);
        faulty("brigade seconds 4 99999", 1, 18);
        faulty(FIRST + "99999", 1, 49);
        faulty(FIRST + HAND + HAND + "apart 0 1 99999", 1, 101);
        // The word of a 7th hand, of a 6th pair where it can't stand.
        String six = FIRST + HAND.repeat(6);
        faulty(six + "fire hand", 1, six.length() + 5);
        faulty(six + "fire heat hand", 1, six.length() + 10);
        faulty(six.substring(0, six.length() - 1) + " hand", 1, six.length());
        String five = FIRST + HAND + HAND + "apart 0 1;".repeat(5);
        faulty(five + "fire apart", 1, five.length() + 5);
        faulty(five + "hand together", 1, five.length() + 5);
        faulty(five.substring(0, five.length() - 1) + " apart", 1, five.length());
    }

    private static void firstByPlace() {
        faulty("brigade seconds 0 buckets 0", 2, 16);
        faulty("brigade seconds 0 !", 2, 16);
        faulty("! brigade seconds 0", 1, 0);
        faulty("brigade seconds 4 ! 0", 1, 18);
        faulty(FIRST + HAND.repeat(6) + "hand pace 9 !", 3, 175);
        faulty(FIRST + "hand pace 7 spills 0 hand", 2, 59);
        faulty(FIRST + "hand pace 1 spills 10 hand", 2, 68);
        faulty(FIRST + "apart 0 1;" + HAND.repeat(7), 2, 55);
    }

    private static void numbersOutOfBounds() {
        String[] great = {"100", "4294967300", "4294967297", "18446744073709551617", "2147483648", "2147483649",
            "1".repeat(400)};
        for (String number : great) {
            faulty("brigade seconds " + number, 2, 16);
            faulty("brigade seconds 4 buckets " + number, 2, 26);
            faulty(FIRST + "hand pace " + number, 2, 59);
        }
        faulty("brigade seconds 00", 2, 16);
        faulty("brigade seconds 061", 2, 16);
        good("brigade seconds " + "0".repeat(400) + "60 buckets 1 size 1 back 0 odds 0;", 1);
        faulty(FIRST + "fire heat 0 grows 1;", 2, 59);
        faulty(FIRST + "fire heat 1000 grows 1;", 2, 59);
        faulty(FIRST + "fire heat 1 grows 10;", 2, 67);
    }

    private static void handsOfPairs() {
        for (String word : new String[] {"apart ", "together "}) {
            int at = 49 + word.length();
            faulty(FIRST + word + "0 1;", 2, at);
            faulty(FIRST + HAND + word + "0 0;", 2, at + 23);
            faulty(FIRST + HAND + word + "0 1;", 2, at + 23);
            faulty(FIRST + HAND + word + "1 0;", 2, at + 21);
            faulty(FIRST + HAND + HAND + word + "1 1;", 2, at + 44);
            faulty(FIRST + HAND + HAND + word + "0 2;", 2, at + 44);
            faulty(FIRST + HAND + HAND + word + "2 0;", 2, at + 42);
            // HANDS told behind it are none yet.
            faulty(FIRST + HAND + HAND + word + "0 2;" + HAND, 2, at + 44);
            good(FIRST + HAND + HAND + HAND + word + "0 2;", 5);
            good(FIRST + HAND + HAND + word + "1 0;" + word + "0 1;", 5);
            good(FIRST + HAND.repeat(6) + word + "5 0;", 8);
            faulty(FIRST + HAND.repeat(6) + word + "6 0;", 2, at + 126);
            faulty(FIRST + HAND.repeat(6) + word + "0 6;", 2, at + 128);
        }
    }

    private static void seventhHand() {
        good(FIRST + HAND.repeat(6), 7);
        faulty(FIRST + HAND.repeat(7), 3, 175);
        faulty(FIRST + HAND.repeat(6) + "hand", 3, 175);
        faulty(FIRST + HAND.repeat(6) + "fire heat 1 grows 1; hand pace 2 spills 1;", 3, 196);
        // Another brigade's hands are not counted.
        HandLine x = Check.told(FIRST + HAND.repeat(6));
        Check.feed(x, FIRST + HAND.repeat(6));
        CHECK.due("brigade(), six again", x.brigade(), 7);
        Check.feed(x, FIRST + HAND.repeat(7));
        x.brigade();
        x.end(175);
        CHECK.due("brigade(), six behind a FAULT", x.brigade(), 7);
    }

    private static void sixthPair() {
        String hands = FIRST + HAND + HAND;
        good(hands + "apart 0 1;".repeat(5), 8);
        good(hands + "together 0 1;".repeat(5), 8);
        faulty(hands + "apart 0 1;".repeat(6), 3, 91 + 50);
        faulty(hands + "together 0 1;".repeat(6), 3, 91 + 65);
        faulty(hands + "together 0 1;".repeat(3) + "apart 0 1;".repeat(2) + "\ntogether", 3, 91 + 60);
        HandLine x = Check.told(hands + "apart 0 1;".repeat(5));
        Check.feed(x, hands + "apart 0 1;".repeat(5));
        CHECK.due("brigade(), five again", x.brigade(), 8);
    }

    private static void lastFire() {
        HandLine x = Check.told(FIRST);
        CHECK.due("heat, without", x.count(7), 0);
        CHECK.due("grows, without", x.count(8), 0);
        HandLine y = Check.told(FIRST + "fire heat 999 grows 9;fire heat 1 grows 0;");
        CHECK.due("heat, the last one", y.count(7), 1);
        CHECK.due("grows, the last one", y.count(8), 0);
        HandLine z = Check.told(FIRST + "fire heat 1 grows 0;" + HAND + "fire heat 999 grows 9;" + HAND);
        CHECK.due("heat, the last one", z.count(7), 999);
        CHECK.due("grows, the last one", z.count(8), 9);
        CHECK.due("LINES, all of them", z.count(10), 5);
    }

    private static void handsAndPairs() {
        HandLine x = Check.told(FIRST + "hand pace 1 spills 0;hand pace 2 spills 1;hand pace 3 spills 2;"
                + "hand pace 4 spills 7;hand pace 5 spills 8;hand pace 6 spills 9;"
                + "together 0 5;apart 5 0;together 1 2;apart 3 4;together 4 5;");
        CHECK.dueRow("pace", h -> x.hand(h, 0), 1, 2, 3, 4, 5, 6, -2);
        CHECK.dueRow("spills", h -> x.hand(h, 1), 0, 1, 2, 7, 8, 9, -2);
        CHECK.dueRow("pair's first", p -> x.pair(p, 0), 0, 5, 1, 3, 4, -2);
        CHECK.dueRow("pair's other", p -> x.pair(p, 1), 5, 0, 2, 4, 5, -2);
        CHECK.dueRow("pair's kind", p -> x.pair(p, 2), 1, 0, 1, 0, 1, -2);
        CHECK.dueRow("keeps", x::keeps, 0, 1, 1, 0, 1, -2);
        CHECK.due("kept()", x.kept(), 22);
        HandLine none = Check.told(FIRST);
        CHECK.due("hand(0, 0) of no HANDS", none.hand(0, 0), -2);
        CHECK.due("pair(0, 0) of no PAIRS", none.pair(0, 0), -2);
        CHECK.due("keeps(0) of no PAIRS", none.keeps(0), -2);
        CHECK.due("kept() of no PAIRS", none.kept(), 0);
    }

    /** Neighbours stand one PLACE from each other, whichever is told first. */
    private static void neighbours() {
        HandLine x = Check.told(FIRST + HAND.repeat(3) + "together 0 1;together 2 1;together 0 2;together 2 0;");
        CHECK.dueRow("keeps together", x::keeps, 1, 1, 0, 0, -2);
        CHECK.due("kept() together", x.kept(), 3);
        HandLine y = Check.told(FIRST + HAND.repeat(3) + "apart 0 1;apart 2 1;apart 0 2;apart 2 0;apart 1 0;");
        CHECK.dueRow("keeps apart", y::keeps, 0, 0, 1, 1, 0, -2);
        CHECK.due("kept() apart", y.kept(), 12);
        y.paces(0, 6);
        y.rest(1, 0, 4);
        CHECK.due("kept(), whatever is done", y.kept(), 12);
        HandLine z = Check.told(FIRST + HAND.repeat(2) + "together 0 1;".repeat(5));
        CHECK.due("kept() of all five", z.kept(), 31);
    }

    private static void counts() {
        HandLine x = Check.told("brigade seconds 1 buckets 1 size 1 back 0 odds 0;");
        CHECK.dueRow("count of the least", x::count, 1, 1, 1, 0, 0, 0, 0, 0, 0, 0, 1, 0, 0, -1);
        HandLine y = Check.told("brigade seconds 60 buckets 8 size 30 back 20 odds 10;" + HAND.repeat(6)
                + "apart 0 1;".repeat(5) + "fire heat 999 grows 9;");
        for (int i = 0; i < 25; i++) {
            y.feed(0, 0, 0, 0, 0);
        }
        for (int i = 0; i < 30; i++) {
            y.paces(5, 6);
        }
        for (int slot = 0; slot < 4; slot++) {
            y.row(slot, slot, 60);
        }
        CHECK.dueRow("count of the greatest", y::count, 60, 8, 30, 20, 10, 6, 5, 999, 9, 30, 13, 500, 4, -1);
        for (int what : new int[] {-1, 13, GREATEST, LEAST}) {
            CHECK.due("count(" + what + ")", y.count(what), -1);
        }
    }
}
