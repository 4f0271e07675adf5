/** A line of hands from the river: see README.md for its use, the document for its promises. */
public final class HandLine {
    public static final int NONE = -1;

    private static final int NO_SUCH = -2;
    private static final int BELOW_NOTHING = -3;
    private static final int FAULTY = -4;
    private static final int NOT_NOW = -5;
    private static final int NOTHING_THERE = -6;
    private static final int BEYOND = -7;
    private static final int UNLIKE = -8;
    private static final int NO_GAME = -1000;

    private static final int MOST_BYTES = 500;
    private static final int MOST_SECONDS = 60;
    private static final int MOST_BUCKETS = 8;
    private static final int MOST_SIZE = 30;
    private static final int MOST_HEAT = 999;
    private static final int MOST_HANDS = 6;
    private static final int MOST_PACE = 6;
    private static final int MOST_PAIRS = 5;
    private static final int MOST_ACTS = 30;
    private static final int MOST_ORDERS = 720;
    private static final int MOST_SLIP_SECOND = 7;
    private static final int MOST_SEED = 2_000_000_000;
    private static final int IMAGES = 3;

    // The places of a BRIGADE's numbers are those by which count() asks for them.
    private static final int SECONDS = 0;
    private static final int BUCKETS = 1;
    private static final int SIZE = 2;
    private static final int BACK = 3;
    private static final int ODDS = 4;
    private static final int HANDS = 5;
    private static final int PAIRS = 6;
    private static final int HEAT = 7;
    private static final int GROWS = 8;
    private static final int ACTS = 9;
    private static final int LINES = 10;
    private static final int NUMBERS = 11;
    private static final int TAPE_BYTES = 11;
    private static final int SLOT_ROWS = 12;

    private static final int[] FACTORIAL = {1, 1, 2, 6, 24, 120, 720};

    private final Reader reader = new Reader();
    private final Tape tape = reader.tape;
    private final Crew draft = new Crew();
    private final Crew crew = new Crew();
    private final Crew[] images = {new Crew(), new Crew(), new Crew()};
    private final boolean[] imaged = new boolean[IMAGES];
    private final Slots slots = new Slots();
    private final Line line = new Line();
    private final Tale tale = new Tale();
    private final Orders orders = new Orders();
    private final Circle circle = new Circle();
    private boolean taleStands = false;
    private boolean ordersListed = false;
    private boolean ordersPlayed = false;

    public HandLine() {
    }

    // ---- the TAPE and the BRIGADE ----

    public int feed(int a, int b, int c, int d, int e) {
        if (!tape.hasRoom(20)) {
            return NONE;
        }
        tape.putNumber(a);
        tape.putNumber(b);
        tape.putNumber(c);
        tape.putNumber(d);
        tape.putNumber(e);
        return tape.length;
    }

    public int end(int n) {
        if (n < 0 || n > tape.length) {
            return NONE;
        }
        tape.length = n;
        return n;
    }

    public int brigade() {
        if (!reader.readInto(draft)) {
            return FAULTY;
        }
        crew.copyFrom(draft);
        tape.length = 0;
        forgetAll();
        return crew.number[LINES];
    }

    public int fault(int what) {
        if (what == 0) {
            return reader.fault;
        }
        return what == 1 ? reader.faultPlace : NONE;
    }

    public int hand(int hand, int what) {
        if (!crew.hasHand(hand) || !isEither(what)) {
            return NO_SUCH;
        }
        return what == 0 ? crew.pace[hand] : crew.spills[hand];
    }

    public int pair(int pair, int what) {
        if (!crew.hasPair(pair) || what < 0 || what > 2) {
            return NO_SUCH;
        }
        if (what == 2) {
            return crew.pairTogether[pair];
        }
        return what == 0 ? crew.pairFirst[pair] : crew.pairOther[pair];
    }

    public int keeps(int pair) {
        if (!crew.hasPair(pair)) {
            return NO_SUCH;
        }
        return crew.keptAsTold(pair) ? 1 : 0;
    }

    public int kept() {
        if (!crew.stands()) {
            return NO_SUCH;
        }
        int bits = 0;
        for (int pair = 0; pair < crew.number[PAIRS]; pair++) {
            if (crew.keptAsTold(pair)) {
                bits |= 1 << pair;
            }
        }
        return bits;
    }

    // ---- second by second ----

    public int holds(int hand, int second) {
        if (!crew.hasHand(hand) || !crew.hasSecond(second)) {
            return NO_SUCH;
        }
        return hasBit(told().busy[second], hand) ? tale.load[hand] : NONE;
    }

    public int held(int hand, int second) {
        if (!crew.hasHand(hand) || !crew.hasSecond(second)) {
            return NO_SUCH;
        }
        return hasBit(told().busy[second], hand) ? tale.heldAt(hand, second) : NONE;
    }

    public int busy(int second) {
        return atSecond(told().busy, second);
    }

    public int waits(int second) {
        return atSecond(told().waits, second);
    }

    public int ready(int second) {
        return atSecond(told().ready, second);
    }

    public int river(int second) {
        return atSecond(told().river, second);
    }

    public int road(int second) {
        return atSecond(told().road, second);
    }

    public int thrown(int second) {
        return atSecond(told().thrown, second);
    }

    public int spilt(int second) {
        return atSecond(told().spilt, second);
    }

    public int fire(int second) {
        return atSecond(told().fire, second);
    }

    public int water(int second) {
        return crew.hasSecond(second) ? told().waterTo(second) : NO_SUCH;
    }

    public int left(int second) {
        if (!crew.hasSecond(second)) {
            return NO_SUCH;
        }
        int bits = told().busy[second];
        int sum = 0;
        for (int hand = 0; hand < crew.number[HANDS]; hand++) {
            if (hasBit(bits, hand)) {
                sum += tale.load[hand];
            }
        }
        return sum;
    }

    // ---- over all seconds ----

    public int stays(int hand) {
        return crew.hasHand(hand) ? secondsWith(told().waits, hand) : NO_SUCH;
    }

    public int idle(int hand) {
        return crew.hasHand(hand) ? secondsIdle(hand) : NO_SUCH;
    }

    public int passes(int hand) {
        return crew.hasHand(hand) ? secondsWith(told().passed, hand) : NO_SUCH;
    }

    public int loses(int hand) {
        return crew.hasHand(hand) ? secondsWith(told().passed, hand) * tale.lossOf(hand) : NO_SUCH;
    }

    public int starts(int hand) {
        if (!crew.hasHand(hand)) {
            return NO_SUCH;
        }
        int[] busyRow = told().busy;
        for (int second = 0; second < crew.number[SECONDS]; second++) {
            if (hasBit(busyRow[second], hand)) {
                return second;
            }
        }
        return NONE;
    }

    public int lazy() {
        if (!crew.stands()) {
            return NO_SUCH;
        }
        int most = 0;
        int who = NONE;
        for (int hand = 0; hand < crew.number[HANDS]; hand++) {
            int idleSeconds = secondsIdle(hand);
            if (idleSeconds > most) {
                most = idleSeconds;
                who = hand;
            }
        }
        return who;
    }

    public int queue() {
        if (!crew.stands()) {
            return NO_SUCH;
        }
        int most = 0;
        int who = NONE;
        for (int hand = 0; hand < crew.number[HANDS]; hand++) {
            int waited = secondsWith(told().waits, hand);
            if (waited > most) {
                most = waited;
                who = hand;
            }
        }
        return who;
    }

    public int out() {
        return crew.stands() ? outBy(told().throwBits, tale.poured) : NO_SUCH;
    }

    public int worst() {
        if (!crew.stands()) {
            return NO_SUCH;
        }
        int[] fireRow = told().fire;
        int most = 0;
        for (int second = 0; second < crew.number[SECONDS]; second++) {
            most = Math.max(most, fireRow[second]);
        }
        return most;
    }

    public int when(int k) {
        if (k < 0 || !crew.stands()) {
            return NO_SUCH;
        }
        int[] thrownRow = told().thrown;
        for (int second = 0; second < crew.number[SECONDS]; second++) {
            if (thrownRow[second] > k) {
                return second;
            }
        }
        return NONE;
    }

    public int gap() {
        if (!crew.stands()) {
            return NO_SUCH;
        }
        long throwBits = told().throwBits;
        int most = 0;
        int length = 0;
        for (int second = 0; second < crew.number[SECONDS]; second++) {
            length = hasBit(throwBits, second) ? 0 : length + 1;
            most = Math.max(most, length);
        }
        return most;
    }

    public int full() {
        return crew.stands() ? mostBusy() : NO_SUCH;
    }

    public int crowded() {
        if (!crew.stands()) {
            return NO_SUCH;
        }
        int most = mostBusy();
        int second = 0;
        // Some SECOND has the most, so the last one needs no test.
        while (second < crew.number[SECONDS] - 1 && Integer.bitCount(tale.busy[second]) != most) {
            second++;
        }
        return second;
    }

    public int until(int n) {
        if (n < 0 || !crew.stands()) {
            return NO_SUCH;
        }
        told();
        for (int second = 0; second < crew.number[SECONDS]; second++) {
            if (tale.waterTo(second) >= n) {
                return second;
            }
        }
        return NONE;
    }

    // ---- were it otherwise ----

    public int with(int n) {
        if (n < 1 || n > MOST_BUCKETS || !crew.stands()) {
            return NO_SUCH;
        }
        lineAsNow();
        line.buckets = n;
        return outBy(playLine(), line.poured());
    }

    public int ease(int hand) {
        if (!crew.hasHand(hand)) {
            return NO_SUCH;
        }
        int now = waterNow();
        int own = crew.pace[hand];
        for (int pace = MOST_PACE; pace > own; pace--) {
            if (waterByPace(hand, pace) >= now) {
                return pace;
            }
        }
        return own;
    }

    public int slow() {
        if (!crew.stands()) {
            return NO_SUCH;
        }
        int most = waterNow();
        int who = NONE;
        for (int hand = 0; hand < crew.number[HANDS]; hand++) {
            int sum = waterByPace(hand, 1);
            if (sum > most) {
                most = sum;
                who = hand;
            }
        }
        return who;
    }

    public int enough() {
        if (!crew.stands()) {
            return NO_SUCH;
        }
        int wanted = waterByBuckets(MOST_BUCKETS);
        int n = 1;
        while (n < MOST_BUCKETS && waterByBuckets(n) < wanted) {
            n++;
        }
        return n;
    }

    public int size() {
        if (!crew.stands()) {
            return NO_SUCH;
        }
        long throwBits = told().throwBits;
        lineAsNow();
        for (int n = 1; n <= MOST_SIZE; n++) {
            line.size = n;
            if (outBy(throwBits, line.poured()) != NONE) {
                return n;
            }
        }
        return NONE;
    }

    public int heat() {
        if (!crew.stands()) {
            return NO_SUCH;
        }
        told();
        int most = NONE;
        for (int second = 0; second < crew.number[SECONDS]; second++) {
            // A fire that still burns has grown once in each SECOND ahead of this one.
            most = Math.max(most, tale.waterTo(second) - second * crew.number[GROWS]);
        }
        return Math.min(most, MOST_HEAT);
    }

    public int change() {
        if (!crew.stands()) {
            return NO_SUCH;
        }
        int most = waterNow();
        int who = NONE;
        for (int lesser = 0; lesser < crew.number[HANDS]; lesser++) {
            for (int other = lesser + 1; other < crew.number[HANDS]; other++) {
                lineAsNow();
                line.swap(lesser, other);
                int sum = waterOfLine();
                if (sum > most) {
                    most = sum;
                    who = 10 * lesser + other;
                }
            }
        }
        return who;
    }

    // ---- the ROUND ----

    public int settles() {
        int refusal = roundRefusal();
        return refusal != 0 ? refusal : circle.from;
    }

    public int round() {
        int refusal = roundRefusal();
        return refusal != 0 ? refusal : circle.length();
    }

    public int rate(int what) {
        if (!isEither(what)) {
            return NO_SUCH;
        }
        int refusal = roundRefusal();
        return refusal != 0 ? refusal : (int) part(circle.throwsInIt(), circle.length(), what);
    }

    // ---- ORDERS ----

    public int orders() {
        return crew.stands() ? listed().number : NO_SUCH;
    }

    public int best() {
        if (!crew.stands()) {
            return NO_SUCH;
        }
        int order = played().bestOrder(tale.poured);
        return order == NONE ? NONE : orders.throwsOf(order) * tale.poured;
    }

    public int place(int i) {
        if (!crew.hasHand(i)) {
            return NO_SUCH;
        }
        int order = played().bestOrder(tale.poured);
        return order == NONE ? NONE : orders.handAt(order, i);
    }

    public int soonest() {
        if (!crew.stands()) {
            return NO_SUCH;
        }
        int number = played().number;
        int first = NONE;
        for (int order = 0; order < number; order++) {
            int second = outBy(orders.throwBits[order], tale.poured);
            if (second != NONE && (first == NONE || second < first)) {
                first = second;
            }
        }
        return first;
    }

    public int lets() {
        return crew.stands() ? Integer.bitCount(listed().letGo) : NO_SUCH;
    }

    public int let() {
        return crew.stands() ? listed().letGo : NO_SUCH;
    }

    // ---- SEEN ----

    public int fits(int slot) {
        int refusal = seenRefusal(slot);
        if (refusal != 0) {
            return refusal;
        }
        played().choose(slots, slot);
        return orders.fits;
    }

    public int may(int slot, int hand) {
        if (!crew.hasHand(hand)) {
            return NO_SUCH;
        }
        int refusal = seenRefusal(slot);
        if (refusal != 0) {
            return refusal;
        }
        played().choose(slots, slot);
        return orders.placesOf(hand, crew.number[HANDS]);
    }

    public int ask(int slot) {
        int refusal = seenRefusal(slot);
        if (refusal != 0) {
            return refusal;
        }
        played().choose(slots, slot);
        return orders.secondToAsk(crew.number[SECONDS]);
    }

    public int leaves(int slot) {
        int refusal = seenRefusal(slot);
        if (refusal != 0) {
            return refusal;
        }
        played().choose(slots, slot);
        int second = orders.secondToAsk(crew.number[SECONDS]);
        return second == NONE ? orders.fits : orders.worstBy(second);
    }

    // ---- sets of HANDS, and two who dawdle ----

    public int brings(int set) {
        if (!crew.stands() || set < 0 || set > crew.allHands()) {
            return NO_SUCH;
        }
        return waterOfSet(set);
    }

    public int without(int hand) {
        return crew.hasHand(hand) ? waterOfSet(crew.allHands() & ~(1 << hand)) : NO_SUCH;
    }

    public int share(int hand, int what) {
        if (!crew.hasHand(hand) || !isEither(what)) {
            return NO_SUCH;
        }
        int number = crew.number[HANDS];
        int mine = 1 << hand;
        long sum = 0;
        for (int set = 0; set <= crew.allHands(); set++) {
            if ((set & mine) == 0) {
                int ahead = Integer.bitCount(set);
                // So many orders have just this set ahead of the HAND.
                long likeThis = (long) FACTORIAL[ahead] * FACTORIAL[number - 1 - ahead];
                sum += likeThis * (waterOfSet(set | mine) - waterOfSet(set));
            }
        }
        return (int) part(sum, FACTORIAL[number], what);
    }

    public int rests(int hand, int other) {
        if (!crew.hasHand(hand) || !crew.hasHand(other) || hand == other) {
            return NO_SUCH;
        }
        int bits = 0;
        for (int choices = 0; choices < 4; choices++) {
            int x = choices & 1;
            int y = choices >> 1;
            boolean content = getsBy(hand, other, x, y) >= getsBy(hand, other, 1 - x, y)
                    && getsBy(other, hand, y, x) >= getsBy(other, hand, 1 - y, x);
            if (content) {
                bits |= 1 << choices;
            }
        }
        return bits;
    }

    public int gets(int hand, int other, int x, int y) {
        if (!crew.hasHand(hand) || !crew.hasHand(other) || hand == other || !isEither(x) || !isEither(y)) {
            return NO_GAME;
        }
        return getsBy(hand, other, x, y);
    }

    // ---- SLIPS ----

    public long chance(int second, int n, int what) {
        if (!isSlipSecond(second) || n < 0 || n > 9 || !isEither(what)) {
            return NO_SUCH;
        }
        lineAsNow();
        long sum = 0;
        for (int slips = 0; slips < 2 << second; slips++) {
            if (Long.bitCount(line.play(second + 1, slips)) >= n) {
                sum += weight(slips, second + 1);
            }
        }
        return part(sum, power(10, second + 1), what);
    }

    public long mean(int second, int what) {
        if (!isSlipSecond(second) || !isEither(what)) {
            return NO_SUCH;
        }
        lineAsNow();
        long sum = 0;
        for (int slips = 0; slips < 2 << second; slips++) {
            long poured = (long) line.poured() * Long.bitCount(line.play(second + 1, slips));
            sum += weight(slips, second + 1) * poured;
        }
        return part(sum, power(10, second + 1), what);
    }

    public int drawn(int seed, int what) {
        if (!crew.stands() || !isSeed(seed) || what < 0 || what > 2) {
            return NO_SUCH;
        }
        long slips = slipsFrom(seed);
        if (what == 0) {
            return Long.bitCount(slips);
        }
        lineAsNow();
        long throwBits = line.play(crew.number[SECONDS], slips);
        return what == 1 ? Long.bitCount(throwBits) : outBy(throwBits, line.poured());
    }

    public int luck(int seed, int n) {
        if (!crew.stands() || !isSeed(seed) || n < 1 || n > 20) {
            return NO_SUCH;
        }
        lineAsNow();
        int nights = 0;
        for (int i = 0; i < n; i++) {
            long throwBits = line.play(crew.number[SECONDS], slipsFrom((long) seed + i));
            if (outBy(throwBits, line.poured()) != NONE) {
                nights++;
            }
        }
        return nights;
    }

    // ---- acts, and images ----

    public int rest(int hand, int second, int n) {
        if (!crew.hasHand(hand) || !crew.hasSecond(second) || n < 1 || n > 9) {
            return NO_SUCH;
        }
        if (crew.number[ACTS] >= MOST_ACTS) {
            return NOT_NOW;
        }
        crew.addAct(hand, second, n);
        forget();
        return told().thrown[crew.number[SECONDS] - 1];
    }

    public int paces(int hand, int n) {
        if (!crew.hasHand(hand) || n < 1 || n > MOST_PACE) {
            return NO_SUCH;
        }
        if (crew.number[ACTS] >= MOST_ACTS) {
            return NOT_NOW;
        }
        int was = crew.pace[hand];
        crew.addAct(hand, NONE, n);
        forget();
        return was;
    }

    public int undo() {
        if (!crew.stands()) {
            return NO_SUCH;
        }
        int acts = crew.number[ACTS];
        if (acts == 0) {
            return NOT_NOW;
        }
        crew.keepActs(acts - 1);
        forget();
        return acts - 1;
    }

    public int anew() {
        if (!crew.stands()) {
            return NO_SUCH;
        }
        int acts = crew.number[ACTS];
        crew.keepActs(0);
        forget();
        return acts;
    }

    public int fills(int n) {
        if (n < 1 || n > MOST_SIZE || !crew.stands()) {
            return NO_SUCH;
        }
        if (crew.number[ACTS] > 0) {
            return NOT_NOW;
        }
        int was = crew.number[SIZE];
        crew.number[SIZE] = n;
        forget();
        return was;
    }

    public int count(int what) {
        if (what >= 0 && what < NUMBERS) {
            return crew.number[what];
        }
        if (what == TAPE_BYTES) {
            return tape.length;
        }
        return what == SLOT_ROWS ? slots.rowsThere() : NONE;
    }

    public int image(int k) {
        if (k < 0 || k >= IMAGES) {
            return NO_SUCH;
        }
        images[k].copyFrom(crew);
        imaged[k] = true;
        return 0;
    }

    public int back(int k) {
        if (k < 0 || k >= IMAGES) {
            return NO_SUCH;
        }
        if (!imaged[k]) {
            return NOTHING_THERE;
        }
        crew.copyFrom(images[k]);
        forgetAll();
        return 0;
    }

    // ---- SLOTS ----

    public int row(int slot, int width, int n) {
        if (!slots.isSlot(slot) || width < 0 || width > 3 || n > Slots.MOST_CELLS) {
            return NO_SUCH;
        }
        if (n < 0) {
            return BELOW_NOTHING;
        }
        slots.makeRow(slot, width, n);
        return 0;
    }

    public int write(int slot, int i, long v) {
        if (!slots.isSlot(slot)) {
            return NO_SUCH;
        }
        if (!slots.hasRow(slot)) {
            return NOTHING_THERE;
        }
        if (i < 0 || i >= slots.length[slot]) {
            return BEYOND;
        }
        slots.setCell(slot, i, v);
        return 0;
    }

    public int paste(int slot, int i, int to, int k, int n) {
        if (!slots.isSlot(slot) || !slots.isSlot(to)) {
            return NO_SUCH;
        }
        if (!slots.hasRow(slot) || !slots.hasRow(to)) {
            return NOTHING_THERE;
        }
        if (slots.width[slot] != slots.width[to]) {
            return UNLIKE;
        }
        if (!slots.hasCells(slot, i, n) || !slots.hasCells(to, k, n)) {
            return BEYOND;
        }
        slots.copyCells(slot, i, to, k, n);
        return 0;
    }

    // ---- what the answers are made of ----

    private static boolean isEither(int what) {
        return what == 0 || what == 1;
    }

    private static boolean hasBit(long bits, int i) {
        return (bits >>> i & 1L) != 0;
    }

    /** An act or another size: what was worked out of the line as it was is stale. */
    private void forget() {
        taleStands = false;
        ordersPlayed = false;
    }

    /** Another BRIGADE: its ORDERS are others, too. */
    private void forgetAll() {
        forget();
        ordersListed = false;
    }

    private Tale told() {
        if (!taleStands) {
            lineAsNow();
            tale.tell(crew, line);
            taleStands = true;
        }
        return tale;
    }

    private Orders listed() {
        if (!ordersListed) {
            orders.list(crew);
            ordersListed = true;
        }
        return orders;
    }

    private Orders played() {
        listed();
        told();
        if (!ordersPlayed) {
            orders.playAll(crew, line);
            ordersPlayed = true;
        }
        return orders;
    }

    private int atSecond(int[] values, int second) {
        return crew.hasSecond(second) ? values[second] : NO_SUCH;
    }

    private int secondsWith(int[] bits, int hand) {
        int number = 0;
        for (int second = 0; second < crew.number[SECONDS]; second++) {
            if (hasBit(bits[second], hand)) {
                number++;
            }
        }
        return number;
    }

    private int secondsIdle(int hand) {
        return crew.number[SECONDS] - secondsWith(told().busy, hand);
    }

    private int mostBusy() {
        int[] busyRow = told().busy;
        int most = 0;
        for (int second = 0; second < crew.number[SECONDS]; second++) {
            most = Math.max(most, Integer.bitCount(busyRow[second]));
        }
        return most;
    }

    private static int burnsOn(int fire, int water, int grows) {
        int lower = fire - water;
        return lower > 0 ? lower + grows : 0;
    }

    private int outBy(long throwBits, int poured) {
        int fire = crew.number[HEAT];
        for (int second = 0; second < crew.number[SECONDS]; second++) {
            fire = burnsOn(fire, hasBit(throwBits, second) ? poured : 0, crew.number[GROWS]);
            if (fire == 0) {
                return second;
            }
        }
        return NONE;
    }

    private void lineAsNow() {
        line.clearFor(crew);
        for (int hand = 0; hand < crew.number[HANDS]; hand++) {
            line.join(crew, hand);
        }
    }

    private long playLine() {
        return line.play(crew.number[SECONDS], 0L);
    }

    private int waterOfLine() {
        return Long.bitCount(playLine()) * line.poured();
    }

    private int waterNow() {
        return Long.bitCount(told().throwBits) * tale.poured;
    }

    private int waterByPace(int hand, int pace) {
        lineAsNow();
        line.pace[hand] = pace;
        return waterOfLine();
    }

    private int waterByBuckets(int n) {
        lineAsNow();
        line.buckets = n;
        return waterOfLine();
    }

    private int waterOfSet(int set) {
        line.clearFor(crew);
        for (int hand = 0; hand < crew.number[HANDS]; hand++) {
            if (hasBit(set, hand)) {
                line.join(crew, hand);
            }
        }
        return waterOfLine();
    }

    private int getsBy(int hand, int other, int x, int y) {
        lineAsNow();
        line.pace[hand] += x;
        line.pace[other] += y;
        return 2 * Long.bitCount(playLine()) + 5 * x;
    }

    private int roundRefusal() {
        if (!crew.stands()) {
            return NO_SUCH;
        }
        if (crew.number[HANDS] == 0) {
            return NONE;
        }
        lineAsNow();
        circle.goRound(line);
        return 0;
    }

    private int seenRefusal(int slot) {
        if (!slots.isSlot(slot) || !crew.stands()) {
            return NO_SUCH;
        }
        if (!slots.hasRow(slot)) {
            return NOTHING_THERE;
        }
        int length = slots.length[slot];
        if (length % 2 != 0) {
            return NO_SUCH;
        }
        for (int i = 0; i + 1 < length; i += 2) {
            long second = slots.cellOf(slot, i);
            long number = slots.cellOf(slot, i + 1);
            if (second < 0 || second >= crew.number[SECONDS] || number < 0 || number > 99) {
                return NO_SUCH;
            }
        }
        return 0;
    }

    private boolean isSlipSecond(int second) {
        return crew.hasSecond(second) && second <= MOST_SLIP_SECOND;
    }

    private static boolean isSeed(int seed) {
        return seed >= 0 && seed <= MOST_SEED;
    }

    private static long power(long base, int n) {
        long product = 1;
        for (int i = 0; i < n; i++) {
            product *= base;
        }
        return product;
    }

    /** How many of the ten to the power of SECONDS cases have just these SLIPS. */
    private long weight(int slips, int seconds) {
        int odds = crew.number[ODDS];
        int slipped = Integer.bitCount(slips);
        return power(odds, slipped) * power(10 - odds, seconds - slipped);
    }

    private long slipsFrom(long seed) {
        long slips = 0;
        long x = seed;
        for (int second = 0; second < crew.number[SECONDS]; second++) {
            x = (1103515245L * x + 12345L) & 0x7fffffffL;
            if ((x >> 16) % 10 < crew.number[ODDS]) {
                slips |= 1L << second;
            }
        }
        return slips;
    }

    private static long part(long above, long below, int what) {
        long a = Math.abs(above);
        long b = below;
        // No two longs need more than 92 rounds of this.
        for (int i = 0; i < 100 && b != 0; i++) {
            long next = a % b;
            a = b;
            b = next;
        }
        long told = what == 0 ? above : below;
        return a == 0 ? told : told / a;
    }

    /** The bytes that were fed. */
    private static final class Tape {
        final byte[] bytes = new byte[MOST_BYTES];
        int length = 0;

        boolean hasRoom(int more) {
            return length + more <= MOST_BYTES;
        }

        void putNumber(int number) {
            if (!hasRoom(4)) {
                return;
            }
            for (int shift = 24; shift >= 0; shift -= 8) {
                bytes[length] = (byte) (number >> shift);
                length++;
            }
        }

        int byteAt(int i) {
            return i >= 0 && i < length ? bytes[i] : NONE;
        }
    }

    /** Reads the TAPE token by token; behind a FAULT it reads nothing more. */
    private static final class Reader {
        static final int WORD = 0;
        static final int NUMBER = 1;
        static final int SIGN = 2;
        static final int NO_TOKEN = 3;
        static final int BLANK = 4;
        static final int THE_END = 5;
        static final int TOO_GREAT = 1_000_000;

        final Tape tape = new Tape();
        int fault = 0;
        int faultPlace = NONE;
        int kind = THE_END;
        int start = 0;
        int at = 0;
        int value = 0;

        boolean readInto(Crew draft) {
            draft.clear();
            fault = 0;
            faultPlace = NONE;
            at = 0;
            nextToken();
            // Each LINE has a TOKEN at least, and so a byte.
            for (int i = 0; i <= MOST_BYTES && fault == 0 && kind != THE_END; i++) {
                readLine(draft);
            }
            return fault == 0;
        }

        private void readLine(Crew draft) {
            if (draft.number[LINES] == 0) {
                readFirst(draft);
            } else if (isWord("hand")) {
                readHand(draft);
            } else if (isWord("together")) {
                readPair(draft, "together", 1);
            } else if (isWord("apart")) {
                readPair(draft, "apart", 0);
            } else {
                readFire(draft);
            }
            takeSign();
            draft.number[LINES]++;
        }

        private void readFirst(Crew draft) {
            takeWord("brigade");
            takeWord("seconds");
            draft.number[SECONDS] = takeNumber(1, MOST_SECONDS, NONE);
            takeWord("buckets");
            draft.number[BUCKETS] = takeNumber(1, MOST_BUCKETS, NONE);
            takeWord("size");
            draft.number[SIZE] = takeNumber(1, MOST_SIZE, NONE);
            takeWord("back");
            draft.number[BACK] = takeNumber(0, 20, NONE);
            takeWord("odds");
            draft.number[ODDS] = takeNumber(0, 10, NONE);
        }

        private void readHand(Crew draft) {
            if (draft.number[HANDS] >= MOST_HANDS) {
                refuse(3);
            }
            takeWord("hand");
            takeWord("pace");
            int pace = takeNumber(1, MOST_PACE, NONE);
            takeWord("spills");
            int spills = takeNumber(0, 9, NONE);
            if (fault == 0) {
                draft.addHand(pace, spills);
            }
        }

        private void readPair(Crew draft, String word, int together) {
            if (draft.number[PAIRS] >= MOST_PAIRS) {
                refuse(3);
            }
            takeWord(word);
            int last = draft.number[HANDS] - 1;
            int first = takeNumber(0, last, NONE);
            int other = takeNumber(0, last, first);
            if (fault == 0) {
                draft.addPair(first, other, together);
            }
        }

        private void readFire(Crew draft) {
            takeWord("fire");
            takeWord("heat");
            draft.number[HEAT] = takeNumber(1, MOST_HEAT, NONE);
            takeWord("grows");
            draft.number[GROWS] = takeNumber(0, 9, NONE);
        }

        private void refuse(int what) {
            if (fault == 0) {
                fault = what;
                faultPlace = start;
            }
        }

        private void takeWord(String word) {
            if (isWord(word)) {
                nextToken();
            } else {
                refuse(1);
            }
        }

        private void takeSign() {
            if (kind == SIGN) {
                nextToken();
            } else {
                refuse(1);
            }
        }

        private int takeNumber(int least, int most, int unlike) {
            if (kind != NUMBER) {
                refuse(1);
            } else if (value < least || value > most || value == unlike) {
                refuse(2);
            }
            int taken = value;
            nextToken();
            return taken;
        }

        private boolean isWord(String word) {
            if (kind != WORD || at - start != word.length()) {
                return false;
            }
            for (int i = 0; i < word.length(); i++) {
                if (tape.byteAt(start + i) != word.charAt(i)) {
                    return false;
                }
            }
            return true;
        }

        /** Stays where it is behind a FAULT, so that the place of the first one is told. */
        private void nextToken() {
            if (fault != 0) {
                return;
            }
            while (at < tape.length && kindOf(tape.byteAt(at)) == BLANK) {
                at++;
            }
            start = at;
            if (at >= tape.length) {
                kind = THE_END;
                return;
            }
            kind = kindOf(tape.byteAt(at));
            value = 0;
            if (kind != WORD && kind != NUMBER) {
                at++;
                return;
            }
            while (at < tape.length && kindOf(tape.byteAt(at)) == kind) {
                // Of a word this is never asked; a number beyond all bounds must not wrap round.
                value = Math.min(TOO_GREAT, value * 10 + tape.byteAt(at) - '0');
                at++;
            }
        }

        private static int kindOf(int sign) {
            if (sign >= 'a' && sign <= 'z') {
                return WORD;
            }
            if (sign >= '0' && sign <= '9') {
                return NUMBER;
            }
            if (sign == 32 || sign == 10) {
                return BLANK;
            }
            return sign == ';' ? SIGN : NO_TOKEN;
        }
    }

    /** A BRIGADE with its acts; one of 0 LINES is none. */
    private static final class Crew {
        final int[] number = new int[NUMBERS];
        final int[] toldPace = new int[MOST_HANDS];
        final int[] pace = new int[MOST_HANDS];
        final int[] spills = new int[MOST_HANDS];
        final long[] rests = new long[MOST_HANDS];
        final int[] pairFirst = new int[MOST_PAIRS];
        final int[] pairOther = new int[MOST_PAIRS];
        final int[] pairTogether = new int[MOST_PAIRS];
        final int[] actHand = new int[MOST_ACTS];
        // The SECOND in which a rest begins; NONE: the act tells a pace.
        final int[] actFrom = new int[MOST_ACTS];
        final int[] actNumber = new int[MOST_ACTS];

        boolean stands() {
            return number[LINES] > 0;
        }

        boolean hasHand(int hand) {
            return hand >= 0 && hand < number[HANDS];
        }

        boolean hasPair(int pair) {
            return pair >= 0 && pair < number[PAIRS];
        }

        boolean hasSecond(int second) {
            return second >= 0 && second < number[SECONDS];
        }

        int allHands() {
            return (1 << number[HANDS]) - 1;
        }

        void clear() {
            for (int i = 0; i < NUMBERS; i++) {
                number[i] = 0;
            }
        }

        void copyFrom(Crew other) {
            System.arraycopy(other.number, 0, number, 0, NUMBERS);
            System.arraycopy(other.toldPace, 0, toldPace, 0, MOST_HANDS);
            System.arraycopy(other.pace, 0, pace, 0, MOST_HANDS);
            System.arraycopy(other.spills, 0, spills, 0, MOST_HANDS);
            System.arraycopy(other.rests, 0, rests, 0, MOST_HANDS);
            System.arraycopy(other.pairFirst, 0, pairFirst, 0, MOST_PAIRS);
            System.arraycopy(other.pairOther, 0, pairOther, 0, MOST_PAIRS);
            System.arraycopy(other.pairTogether, 0, pairTogether, 0, MOST_PAIRS);
            System.arraycopy(other.actHand, 0, actHand, 0, MOST_ACTS);
            System.arraycopy(other.actFrom, 0, actFrom, 0, MOST_ACTS);
            System.arraycopy(other.actNumber, 0, actNumber, 0, MOST_ACTS);
        }

        void addHand(int paceTold, int spillsTold) {
            int hand = number[HANDS];
            if (hand < MOST_HANDS) {
                toldPace[hand] = paceTold;
                pace[hand] = paceTold;
                spills[hand] = spillsTold;
                rests[hand] = 0;
                number[HANDS] = hand + 1;
            }
        }

        void addPair(int first, int other, int together) {
            int pair = number[PAIRS];
            if (pair < MOST_PAIRS) {
                pairFirst[pair] = first;
                pairOther[pair] = other;
                pairTogether[pair] = together;
                number[PAIRS] = pair + 1;
            }
        }

        /** Whether a PAIR is kept if its HANDS stand at two PLACES. */
        boolean keptAt(int pair, int first, int other) {
            boolean neighbours = Math.abs(first - other) == 1;
            return neighbours == (pairTogether[pair] == 1);
        }

        boolean keptAsTold(int pair) {
            return keptAt(pair, pairFirst[pair], pairOther[pair]);
        }

        void addAct(int hand, int from, int n) {
            int act = number[ACTS];
            if (act < MOST_ACTS) {
                actHand[act] = hand;
                actFrom[act] = from;
                actNumber[act] = n;
                number[ACTS] = act + 1;
                carryOut(act);
            }
        }

        /** Acts may overlap, so those that stay are carried out again from the start. */
        void keepActs(int acts) {
            for (int hand = 0; hand < MOST_HANDS; hand++) {
                pace[hand] = toldPace[hand];
                rests[hand] = 0;
            }
            for (int act = 0; act < acts && act < MOST_ACTS; act++) {
                carryOut(act);
            }
            number[ACTS] = acts;
        }

        private void carryOut(int act) {
            int hand = actHand[act];
            if (!hasHand(hand)) {
                return;
            }
            if (actFrom[act] == NONE) {
                pace[hand] = actNumber[act];
            } else {
                long bits = (1L << actNumber[act]) - 1;
                // What would fall behind the last SECOND is never asked for.
                rests[hand] |= bits << actFrom[act];
            }
        }
    }

    /** HANDS at their PLACES, going from SECOND to SECOND. */
    private static final class Line {
        final int[] pace = new int[MOST_HANDS];
        final int[] spills = new int[MOST_HANDS];
        final long[] rests = new long[MOST_HANDS];
        // For how long each has held his bucket, 0 if he has none.
        final int[] heldFor = new int[MOST_HANDS];
        int places = 0;
        int buckets = 0;
        int size = 0;
        int backTime = 0;
        int atRiver = 0;
        // Bit j: a bucket on its way back that was thrown j SECONDS ago.
        int onRoad = 0;

        void clearFor(Crew crew) {
            places = 0;
            buckets = crew.number[BUCKETS];
            size = crew.number[SIZE];
            backTime = crew.number[BACK];
        }

        void join(Crew crew, int hand) {
            if (places < MOST_HANDS && crew.hasHand(hand)) {
                pace[places] = crew.pace[hand];
                spills[places] = crew.spills[hand];
                rests[places] = crew.rests[hand];
                places++;
            }
        }

        void swap(int one, int other) {
            if (one < 0 || one >= places || other < 0 || other >= places) {
                return;
            }
            int paceOfOne = pace[one];
            int spillsOfOne = spills[one];
            long restsOfOne = rests[one];
            pace[one] = pace[other];
            spills[one] = spills[other];
            rests[one] = rests[other];
            pace[other] = paceOfOne;
            spills[other] = spillsOfOne;
            rests[other] = restsOfOne;
        }

        void wakeAll() {
            for (int at = 0; at < places; at++) {
                rests[at] = 0;
            }
        }

        /** Every bucket goes by all HANDS, so what is in it depends on its PLACE alone. */
        int loadAt(int place) {
            int load = size;
            for (int at = 0; at < place && at < places; at++) {
                load = Math.max(0, load - spills[at]);
            }
            return load;
        }

        int poured() {
            return loadAt(places);
        }

        void begin() {
            for (int at = 0; at < MOST_HANDS; at++) {
                heldFor[at] = 0;
            }
            atRiver = buckets;
            onRoad = 0;
        }

        /** The SECONDS in which a bucket is thrown, as bits. */
        long play(int seconds, long slips) {
            begin();
            long throwBits = 0;
            for (int second = 0; second < seconds && second < MOST_SECONDS; second++) {
                if (isThrow(step(second, hasBit(slips, second)))) {
                    throwBits |= 1L << second;
                }
            }
            return throwBits;
        }

        boolean isThrow(int passed) {
            return places > 0 && (passed >> places - 1 & 1) != 0;
        }

        /** One SECOND: the PLACES at which a bucket was given on or thrown, as bits. */
        int step(int second, boolean slip) {
            if (hasBit(onRoad, backTime)) {
                atRiver++;
            }
            int passed = 0;
            for (int at = places - 1; at >= 0; at--) {
                if (heldFor[at] == 0 || hasBit(rests[at], second)) {
                    continue;
                }
                if (heldFor[at] < pace[at]) {
                    // Nobody asks for this again in this SECOND, so its end need not be awaited.
                    heldFor[at]++;
                } else if (!slip && nextIsFree(at, second)) {
                    passOn(at);
                    passed |= 1 << at;
                }
            }
            if (places > 0 && atRiver > 0 && heldFor[0] == 0 && !hasBit(rests[0], second)) {
                atRiver--;
                heldFor[0] = 1;
            }
            onRoad = onRoad << 1 & (2 << backTime) - 1;
            if (isThrow(passed)) {
                onRoad |= 1;
            }
            return passed;
        }

        int busyBits() {
            int bits = 0;
            for (int at = 0; at < places; at++) {
                if (heldFor[at] > 0) {
                    bits |= 1 << at;
                }
            }
            return bits;
        }

        int readyBits() {
            int bits = 0;
            for (int at = 0; at < places; at++) {
                if (heldFor[at] > 0 && heldFor[at] >= pace[at]) {
                    bits |= 1 << at;
                }
            }
            return bits;
        }

        private boolean nextIsFree(int at, int second) {
            int next = at + 1;
            return next >= places || heldFor[next] == 0 && (rests[next] >>> second & 1L) == 0;
        }

        private void passOn(int at) {
            heldFor[at] = 0;
            if (at + 1 < places) {
                heldFor[at + 1] = 1;
            }
        }
    }

    /** What the line as it stands now does, SECOND by SECOND. */
    private static final class Tale {
        final int[] heldFor = new int[MOST_HANDS * MOST_SECONDS];
        final int[] busy = new int[MOST_SECONDS];
        final int[] waits = new int[MOST_SECONDS];
        final int[] ready = new int[MOST_SECONDS];
        final int[] passed = new int[MOST_SECONDS];
        final int[] river = new int[MOST_SECONDS];
        final int[] road = new int[MOST_SECONDS];
        final int[] thrown = new int[MOST_SECONDS];
        final int[] spilt = new int[MOST_SECONDS];
        final int[] fire = new int[MOST_SECONDS];
        // What is in a bucket at each PLACE, and behind the last one.
        final int[] load = new int[MOST_HANDS + 1];
        long throwBits = 0;
        int poured = 0;

        void tell(Crew crew, Line line) {
            for (int place = 0; place <= MOST_HANDS; place++) {
                load[place] = line.loadAt(place);
            }
            poured = line.poured();
            throwBits = 0;
            line.begin();
            for (int second = 0; second < crew.number[SECONDS] && second < MOST_SECONDS; second++) {
                int readyAhead = line.readyBits();
                passed[second] = line.step(second, false);
                waits[second] = readyAhead & ~passed[second];
                noteLine(line, second);
                noteSums(crew, line, second);
            }
        }

        int heldAt(int hand, int second) {
            return heldFor[second * MOST_HANDS + hand];
        }

        int waterTo(int second) {
            return thrown[second] * poured;
        }

        int lossOf(int hand) {
            return load[hand] - load[hand + 1];
        }

        private void noteLine(Line line, int second) {
            for (int hand = 0; hand < MOST_HANDS; hand++) {
                heldFor[second * MOST_HANDS + hand] = line.heldFor[hand];
            }
            busy[second] = line.busyBits();
            ready[second] = line.readyBits();
            river[second] = line.atRiver;
            road[second] = Integer.bitCount(line.onRoad);
        }

        private void noteSums(Crew crew, Line line, int second) {
            boolean threw = line.isThrow(passed[second]);
            int lost = 0;
            for (int hand = 0; hand < MOST_HANDS; hand++) {
                if (hasBit(passed[second], hand)) {
                    lost += lossOf(hand);
                }
            }
            int fireAhead = second == 0 ? crew.number[HEAT] : fire[second - 1];
            thrown[second] = (second == 0 ? 0 : thrown[second - 1]) + (threw ? 1 : 0);
            spilt[second] = (second == 0 ? 0 : spilt[second - 1]) + lost;
            fire[second] = burnsOn(fireAhead, threw ? poured : 0, crew.number[GROWS]);
            if (threw) {
                throwBits |= 1L << second;
            }
        }
    }

    /** The ROUND: the states at the ends of SECONDS until one comes again. */
    private static final class Circle {
        // Of all lines that can be told, the longest way to a state seen before is 118 SECONDS.
        static final int MOST_STATES = 256;

        final long[] state = new long[MOST_STATES];
        int from = 0;
        int to = 0;

        void goRound(Line line) {
            line.wakeAll();
            line.begin();
            from = 0;
            to = 0;
            for (int second = 0; second < MOST_STATES; second++) {
                line.step(0, false);
                state[second] = stateOf(line);
                int earlier = earlierOf(second);
                if (earlier != NONE) {
                    from = earlier;
                    to = second;
                    return;
                }
            }
        }

        int length() {
            return to - from;
        }

        /** A bucket thrown just now is the lowest bit of the road, and so of the state. */
        int throwsInIt() {
            int number = 0;
            for (int second = from + 1; second <= to; second++) {
                if (hasBit(state[second], 0)) {
                    number++;
                }
            }
            return number;
        }

        private int earlierOf(int second) {
            for (int earlier = 0; earlier < second; earlier++) {
                if (state[earlier] == state[second]) {
                    return earlier;
                }
            }
            return NONE;
        }

        private static long stateOf(Line line) {
            long bits = 0;
            for (int at = 0; at < line.places; at++) {
                bits = bits << 3 | line.heldFor[at];
            }
            // The road has 21 bits at most: back is 20 at most.
            return bits << 21 | line.onRoad;
        }
    }

    /** The ORDERS, the least row first, and those of them that fit what was SEEN. */
    private static final class Orders {
        // The row at work, and at which PLACE each HAND stands by it.
        final int[] rowNow = new int[MOST_HANDS];
        final int[] placeOf = new int[MOST_HANDS];
        // Three bits for each PLACE of a row.
        final int[] rows = new int[MOST_ORDERS];
        final long[] throwBits = new long[MOST_ORDERS];
        final int[] chosen = new int[MOST_ORDERS];
        final int[] groups = new int[MOST_SECONDS + 1];
        int number = 0;
        int letGo = 0;
        int fits = 0;

        void list(Crew crew) {
            int hands = crew.number[HANDS];
            for (int i = 0; i < MOST_HANDS; i++) {
                rowNow[i] = i;
            }
            number = 0;
            letGo = (1 << crew.number[PAIRS]) - 1;
            boolean more = true;
            for (int i = 0; i < MOST_ORDERS && more; i++) {
                int broken = brokenPairs(crew, hands);
                letGo = fewer(letGo, broken);
                if (broken == 0) {
                    addOrder(hands);
                }
                more = goToNextRow(hands);
            }
        }

        void playAll(Crew crew, Line line) {
            for (int order = 0; order < number; order++) {
                line.clearFor(crew);
                for (int at = 0; at < crew.number[HANDS]; at++) {
                    line.join(crew, handAt(order, at));
                }
                throwBits[order] = line.play(crew.number[SECONDS], 0L);
            }
        }

        int throwsOf(int order) {
            return Long.bitCount(throwBits[order]);
        }

        int handAt(int order, int place) {
            return rows[order] >> 3 * place & 7;
        }

        int bestOrder(int poured) {
            int which = NONE;
            int most = NONE;
            for (int order = 0; order < number; order++) {
                int sum = throwsOf(order) * poured;
                if (sum > most) {
                    most = sum;
                    which = order;
                }
            }
            return which;
        }

        void choose(Slots slots, int slot) {
            fits = 0;
            for (int order = 0; order < number; order++) {
                if (isSeen(throwBits[order], slots, slot)) {
                    chosen[fits] = order;
                    fits++;
                }
            }
        }

        int placesOf(int hand, int hands) {
            int bits = 0;
            for (int i = 0; i < fits; i++) {
                for (int at = 0; at < hands; at++) {
                    if (handAt(chosen[i], at) == hand) {
                        bits |= 1 << at;
                    }
                }
            }
            return bits;
        }

        int secondToAsk(int seconds) {
            int fewest = fits;
            int which = NONE;
            for (int second = 0; second < seconds; second++) {
                int most = worstBy(second);
                if (most < fewest) {
                    fewest = most;
                    which = second;
                }
            }
            return which;
        }

        /** The most of the chosen ORDERS that agree on how many were thrown to a SECOND's end. */
        int worstBy(int second) {
            for (int i = 0; i <= MOST_SECONDS; i++) {
                groups[i] = 0;
            }
            int most = 0;
            for (int i = 0; i < fits; i++) {
                int group = thrownTo(throwBits[chosen[i]], second);
                groups[group]++;
                most = Math.max(most, groups[group]);
            }
            return most;
        }

        private static int thrownTo(long bits, long second) {
            return Long.bitCount(bits & (2L << second) - 1);
        }

        private static boolean isSeen(long bits, Slots slots, int slot) {
            for (int i = 0; i + 1 < slots.length[slot]; i += 2) {
                if (thrownTo(bits, slots.cellOf(slot, i)) != slots.cellOf(slot, i + 1)) {
                    return false;
                }
            }
            return true;
        }

        /** Of two sets the one of fewer, of as many the lesser. */
        private static int fewer(int one, int other) {
            int difference = Integer.bitCount(one) - Integer.bitCount(other);
            if (difference != 0) {
                return difference < 0 ? one : other;
            }
            return Math.min(one, other);
        }

        private int brokenPairs(Crew crew, int hands) {
            for (int at = 0; at < hands; at++) {
                placeOf[rowNow[at]] = at;
            }
            int bits = 0;
            for (int pair = 0; pair < crew.number[PAIRS]; pair++) {
                int first = placeOf[crew.pairFirst[pair]];
                int other = placeOf[crew.pairOther[pair]];
                if (!crew.keptAt(pair, first, other)) {
                    bits |= 1 << pair;
                }
            }
            return bits;
        }

        private void addOrder(int hands) {
            int packed = 0;
            for (int at = 0; at < hands; at++) {
                packed |= rowNow[at] << 3 * at;
            }
            if (number < MOST_ORDERS) {
                rows[number] = packed;
                number++;
            }
        }

        private boolean goToNextRow(int hands) {
            int i = hands - 2;
            while (i >= 0 && rowNow[i] > rowNow[i + 1]) {
                i--;
            }
            if (i < 0) {
                return false;
            }
            int j = hands - 1;
            while (j > i + 1 && rowNow[j] < rowNow[i]) {
                j--;
            }
            exchange(i, j);
            int high = hands - 1;
            for (int low = i + 1; low < high; low++) {
                exchange(low, high);
                high--;
            }
            return true;
        }

        private void exchange(int i, int j) {
            int was = rowNow[i];
            rowNow[i] = rowNow[j];
            rowNow[j] = was;
        }
    }

    /** The rows of numbers in the SLOTS. */
    private static final class Slots {
        static final int NUMBER = 4;
        static final int MOST_CELLS = 60;

        final long[] cells = new long[NUMBER * MOST_CELLS];
        // NONE: the SLOT has nothing.
        final int[] length = {NONE, NONE, NONE, NONE};
        final int[] width = new int[NUMBER];

        boolean isSlot(int slot) {
            return slot >= 0 && slot < NUMBER;
        }

        boolean hasRow(int slot) {
            return length[slot] != NONE;
        }

        boolean hasCells(int slot, int i, int n) {
            return i >= 0 && n >= 0 && i <= length[slot] - n;
        }

        int rowsThere() {
            int number = 0;
            for (int slot = 0; slot < NUMBER; slot++) {
                if (hasRow(slot)) {
                    number++;
                }
            }
            return number;
        }

        void makeRow(int slot, int widthTold, int n) {
            width[slot] = widthTold;
            length[slot] = n;
            for (int i = 0; i < MOST_CELLS; i++) {
                cells[slot * MOST_CELLS + i] = 0;
            }
        }

        long cellOf(int slot, int i) {
            return cells[slot * MOST_CELLS + i];
        }

        void setCell(int slot, int i, long v) {
            cells[slot * MOST_CELLS + i] = cutTo(width[slot], v);
        }

        void copyCells(int slot, int i, int to, int k, int n) {
            System.arraycopy(cells, slot * MOST_CELLS + i, cells, to * MOST_CELLS + k, n);
        }

        private static long cutTo(int width, long v) {
            switch (width) {
                case 0:
                    return (byte) v;
                case 1:
                    return (short) v;
                case 2:
                    return (int) v;
                default:
                    return v;
            }
        }
    }
}
