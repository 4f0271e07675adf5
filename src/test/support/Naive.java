import java.io.ByteArrayOutputStream;
import java.math.BigInteger;
import java.util.ArrayList;
import java.util.Arrays;
import java.util.Collections;
import java.util.HashMap;
import java.util.List;
import java.util.Map;
import java.util.TreeMap;
import java.util.regex.Matcher;
import java.util.regex.Pattern;

/**
 * The document once more, as slow and as literal as can be, with the whole Java library:
 * what HandLine answers is held against this in AgainstNaiveTest.
 */
public final class Naive {
    static final int NONE = -1;

    /** A HAND as told. */
    static final class Hand {
        int pace;
        int spills;
    }

    /** A PAIR as told. */
    static final class Pair {
        int first;
        int other;
        boolean together;
    }

    /** A rest or a pace told. */
    static final class Act {
        boolean rest;
        int hand;
        int second;
        int n;
    }

    /** A BRIGADE and its acts. */
    static final class Brigade {
        int seconds;
        int buckets;
        int size;
        int back;
        int odds;
        int heat;
        int grows;
        int lines;
        List<Hand> hands = new ArrayList<>();
        List<Pair> pairs = new ArrayList<>();
        List<Act> acts = new ArrayList<>();

        Brigade copy() {
            Brigade b = new Brigade();
            b.seconds = seconds;
            b.buckets = buckets;
            b.size = size;
            b.back = back;
            b.odds = odds;
            b.heat = heat;
            b.grows = grows;
            b.lines = lines;
            b.hands.addAll(hands);
            b.pairs.addAll(pairs);
            b.acts.addAll(acts);
            return b;
        }

        int pace(int hand) {
            int p = hands.get(hand).pace;
            for (Act a : acts) {
                if (!a.rest && a.hand == hand) {
                    p = a.n;
                }
            }
            return p;
        }

        boolean rests(int hand, int second) {
            for (Act a : acts) {
                if (a.rest && a.hand == hand && second >= a.second && second < a.second + a.n) {
                    return true;
                }
            }
            return false;
        }
    }

    /** A bucket: where it is, what is in it, how long it is held. */
    static final class Bucket {
        Integer place;
        int water;
        int heldFor;
        int riverFrom;
    }

    /** What is at the end of a SECOND. */
    static final class End {
        Integer[] water;
        Integer[] heldFor;
        boolean[] ready;
        boolean[] waited;
        boolean[] passed;
        int[] lost;
        boolean threw;
        int threwWater;
        int river;
        int road;
        String state;
    }

    private ByteArrayOutputStream tape = new ByteArrayOutputStream();
    private Brigade brigade;
    private int fault = 0;
    private int faultPlace = NONE;
    private final Map<Integer, Brigade> images = new HashMap<>();
    private final BigInteger[][] slots = new BigInteger[4][];
    private final int[] widths = new int[4];

    // ---- the sim ----

    /** Line: hands by place; paces by hand; SLIPS by second; rests of nobody beyond what is told. */
    private List<End> run(Brigade b, List<Integer> line, Map<Integer, Integer> paces, int buckets, int size,
            int seconds, long slips, boolean rested) {
        List<Bucket> all = new ArrayList<>();
        for (int i = 0; i < buckets; i++) {
            all.add(new Bucket());
        }
        int n = line.size();
        List<End> ends = new ArrayList<>();
        for (int s = 0; s < seconds; s++) {
            End e = new End();
            e.water = new Integer[n];
            e.heldFor = new Integer[n];
            e.ready = new boolean[n];
            e.waited = new boolean[n];
            e.passed = new boolean[n];
            e.lost = new int[n];
            boolean slip = seconds <= 64 && (slips >> s & 1) != 0;
            Bucket[] readyAtStart = new Bucket[n];
            for (Bucket x : all) {
                if (x.place != null && x.heldFor >= paces.get(line.get(x.place))) {
                    readyAtStart[x.place] = x;
                }
            }
            for (int p = n - 1; p >= 0; p--) {
                Bucket mine = at(all, p);
                int hand = line.get(p);
                if (mine == null || mine.heldFor < paces.get(hand)) {
                    continue;
                }
                if (slip || rested && b.rests(hand, s)) {
                    continue;
                }
                boolean last = p == n - 1;
                if (!last && (at(all, p + 1) != null || rested && b.rests(line.get(p + 1), s))) {
                    continue;
                }
                int before = mine.water;
                mine.water = Math.max(0, before - b.hands.get(hand).spills);
                e.lost[p] = before - mine.water;
                e.passed[p] = true;
                mine.heldFor = 0;
                if (last) {
                    e.threw = true;
                    e.threwWater = mine.water;
                    mine.place = null;
                    mine.riverFrom = s + 1 + b.back;
                } else {
                    mine.place = p + 1;
                }
            }
            if (n > 0 && at(all, 0) == null && !(rested && b.rests(line.get(0), s))) {
                for (Bucket x : all) {
                    if (x.place == null && x.riverFrom <= s) {
                        x.place = 0;
                        x.water = size;
                        x.heldFor = 0;
                        break;
                    }
                }
            }
            List<Integer> comeIn = new ArrayList<>();
            for (Bucket x : all) {
                if (x.place != null) {
                    int hand = line.get(x.place);
                    if (!(rested && b.rests(hand, s))) {
                        x.heldFor++;
                    }
                    e.water[x.place] = x.water;
                    e.heldFor[x.place] = Math.min(x.heldFor, paces.get(hand));
                    e.ready[x.place] = x.heldFor >= paces.get(hand);
                    e.waited[x.place] = readyAtStart[x.place] == x;
                } else if (x.riverFrom <= s) {
                    e.river++;
                } else {
                    e.road++;
                    comeIn.add(x.riverFrom - s);
                }
            }
            Collections.sort(comeIn);
            e.state = Arrays.toString(e.heldFor) + comeIn;
            ends.add(e);
        }
        return ends;
    }

    private static Bucket at(List<Bucket> all, int place) {
        for (Bucket x : all) {
            if (x.place != null && x.place == place) {
                return x;
            }
        }
        return null;
    }

    private List<Integer> told() {
        List<Integer> line = new ArrayList<>();
        for (int i = 0; i < brigade.hands.size(); i++) {
            line.add(i);
        }
        return line;
    }

    private Map<Integer, Integer> paces() {
        Map<Integer, Integer> m = new HashMap<>();
        for (int i = 0; i < brigade.hands.size(); i++) {
            m.put(i, brigade.pace(i));
        }
        return m;
    }

    private List<End> now() {
        return run(brigade, told(), paces(), brigade.buckets, brigade.size, brigade.seconds, 0, true);
    }

    private List<End> byLine(List<Integer> line) {
        return run(brigade, line, paces(), brigade.buckets, brigade.size, brigade.seconds, 0, true);
    }

    private List<End> byPace(int hand, int pace) {
        Map<Integer, Integer> m = paces();
        m.put(hand, pace);
        return run(brigade, told(), m, brigade.buckets, brigade.size, brigade.seconds, 0, true);
    }

    private static int waterOf(List<End> ends) {
        int w = 0;
        for (End e : ends) {
            w += e.threwWater;
        }
        return w;
    }

    private static int thrownTo(List<End> ends, int second) {
        int c = 0;
        for (int s = 0; s <= second; s++) {
            c += ends.get(s).threw ? 1 : 0;
        }
        return c;
    }

    private List<Integer> fires(List<End> ends, int heat) {
        List<Integer> rows = new ArrayList<>();
        int f = heat;
        boolean out = false;
        for (End e : ends) {
            f -= e.threwWater;
            if (f > 0 && !out) {
                f += brigade.grows;
            } else {
                f = 0;
                out = true;
            }
            rows.add(f);
        }
        return rows;
    }

    private int outOf(List<End> ends, int heat) {
        return fires(ends, heat).indexOf(0);
    }

    private boolean secondIs(int second) {
        return brigade != null && second >= 0 && second < brigade.seconds;
    }

    private boolean handIs(int hand) {
        return brigade != null && hand >= 0 && hand < brigade.hands.size();
    }

    // ---- promises 2 to 8 ----

    public int feed(int a, int b, int c, int d, int e) {
        if (tape.size() + 20 > 500) {
            return NONE;
        }
        for (int x : new int[] {a, b, c, d, e}) {
            tape.write(x >>> 24);
            tape.write(x >>> 16);
            tape.write(x >>> 8);
            tape.write(x);
        }
        return tape.size();
    }

    public int end(int n) {
        if (n < 0 || n > tape.size()) {
            return NONE;
        }
        byte[] b = tape.toByteArray();
        tape = new ByteArrayOutputStream();
        tape.write(b, 0, n);
        return n;
    }

    private static final class Fault extends RuntimeException {
        private static final long serialVersionUID = 1;
        final int kind;
        final int place;

        Fault(int kind, int place) {
            this.kind = kind;
            this.place = place;
        }
    }

    private static final class Token {
        String text;
        int place;
    }

    private static List<Token> tokens(byte[] bytes) {
        String text = new String(bytes, java.nio.charset.StandardCharsets.ISO_8859_1);
        Matcher m = Pattern.compile("[a-z]+|[0-9]+|[^ \n]", Pattern.DOTALL).matcher(text);
        List<Token> all = new ArrayList<>();
        while (m.find()) {
            Token t = new Token();
            t.text = m.group();
            t.place = m.start();
            all.add(t);
        }
        Token end = new Token();
        end.text = "";
        end.place = text.length();
        all.add(end);
        return all;
    }

    private static int number(Token t, int low, int high) {
        if (!t.text.matches("[0-9]+")) {
            throw new Fault(1, t.place);
        }
        BigInteger v = new BigInteger(t.text);
        if (v.compareTo(BigInteger.valueOf(low)) < 0 || v.compareTo(BigInteger.valueOf(high)) > 0) {
            throw new Fault(2, t.place);
        }
        return v.intValue();
    }

    /** The form's words and N's; an N's bounds are beside it. */
    private static int[] form(List<Token> all, int from, String form, int... bounds) {
        List<Integer> got = new ArrayList<>();
        int i = from;
        int k = 0;
        for (String part : form.split(" ")) {
            Token t = all.get(i++);
            if (part.equals("N")) {
                got.add(number(t, bounds[k], bounds[k + 1]));
                k += 2;
            } else if (!t.text.equals(part)) {
                throw new Fault(1, t.place);
            }
        }
        return got.stream().mapToInt(Integer::intValue).toArray();
    }

    private static Brigade parse(byte[] bytes) {
        List<Token> all = tokens(bytes);
        Brigade b = new Brigade();
        int i = 0;
        while (!all.get(i).text.isEmpty()) {
            Token t = all.get(i);
            if (b.lines == 0) {
                int[] v = form(all, i, "brigade seconds N buckets N size N back N odds N ;",
                        1, 60, 1, 8, 1, 30, 0, 20, 0, 10);
                b.seconds = v[0];
                b.buckets = v[1];
                b.size = v[2];
                b.back = v[3];
                b.odds = v[4];
                i += 12;
            } else if (t.text.equals("hand")) {
                if (b.hands.size() == 6) {
                    throw new Fault(3, t.place);
                }
                int[] v = form(all, i, "hand pace N spills N ;", 1, 6, 0, 9);
                Hand h = new Hand();
                h.pace = v[0];
                h.spills = v[1];
                b.hands.add(h);
                i += 6;
            } else if (t.text.equals("together") || t.text.equals("apart")) {
                if (b.pairs.size() == 5) {
                    throw new Fault(3, t.place);
                }
                Pair p = new Pair();
                p.together = t.text.equals("together");
                p.first = number(all.get(i + 1), 0, b.hands.size() - 1);
                p.other = number(all.get(i + 2), 0, b.hands.size() - 1);
                if (p.first == p.other) {
                    throw new Fault(2, all.get(i + 2).place);
                }
                if (!all.get(i + 3).text.equals(";")) {
                    throw new Fault(1, all.get(i + 3).place);
                }
                b.pairs.add(p);
                i += 4;
            } else if (t.text.equals("fire")) {
                int[] v = form(all, i, "fire heat N grows N ;", 1, 999, 0, 9);
                b.heat = v[0];
                b.grows = v[1];
                i += 6;
            } else {
                throw new Fault(1, t.place);
            }
            b.lines++;
        }
        return b;
    }

    public int brigade() {
        try {
            Brigade b = parse(tape.toByteArray());
            fault = 0;
            faultPlace = NONE;
            brigade = b.lines == 0 ? null : b;
            tape = new ByteArrayOutputStream();
            return b.lines;
        } catch (Fault f) {
            fault = f.kind;
            faultPlace = f.place;
            return -4;
        }
    }

    public int fault(int what) {
        return what == 0 ? fault : what == 1 ? faultPlace : NONE;
    }

    public int hand(int hand, int what) {
        if (!handIs(hand) || what < 0 || what > 1) {
            return -2;
        }
        return what == 0 ? brigade.pace(hand) : brigade.hands.get(hand).spills;
    }

    public int pair(int pair, int what) {
        if (brigade == null || pair < 0 || pair >= brigade.pairs.size() || what < 0 || what > 2) {
            return -2;
        }
        Pair p = brigade.pairs.get(pair);
        return what == 0 ? p.first : what == 1 ? p.other : p.together ? 1 : 0;
    }

    private static boolean keepsPair(List<Integer> line, Pair p) {
        boolean near = false;
        for (int i = 0; i + 1 < line.size(); i++) {
            List<Integer> two = line.subList(i, i + 2);
            near |= two.contains(p.first) && two.contains(p.other);
        }
        return near == p.together;
    }

    public int keeps(int pair) {
        if (brigade == null || pair < 0 || pair >= brigade.pairs.size()) {
            return -2;
        }
        return keepsPair(told(), brigade.pairs.get(pair)) ? 1 : 0;
    }

    // ---- promises 9 to 35 ----

    public int holds(int hand, int second) {
        if (!handIs(hand) || !secondIs(second)) {
            return -2;
        }
        Integer w = now().get(second).water[hand];
        return w == null ? NONE : w;
    }

    public int held(int hand, int second) {
        if (!handIs(hand) || !secondIs(second)) {
            return -2;
        }
        Integer h = now().get(second).heldFor[hand];
        return h == null ? NONE : h;
    }

    public int busy(int second) {
        if (!secondIs(second)) {
            return -2;
        }
        int bits = 0;
        for (int h = 0; h < brigade.hands.size(); h++) {
            if (now().get(second).water[h] != null) {
                bits += 1 << h;
            }
        }
        return bits;
    }

    private static int bits(boolean[] flags) {
        int bits = 0;
        for (int i = 0; i < flags.length; i++) {
            bits += flags[i] ? 1 << i : 0;
        }
        return bits;
    }

    public int waits(int second) {
        return secondIs(second) ? bits(now().get(second).waited) : -2;
    }

    public int stays(int hand) {
        if (!handIs(hand)) {
            return -2;
        }
        int c = 0;
        for (End e : now()) {
            c += e.waited[hand] ? 1 : 0;
        }
        return c;
    }

    public int idle(int hand) {
        if (!handIs(hand)) {
            return -2;
        }
        int c = 0;
        for (End e : now()) {
            c += e.water[hand] == null ? 1 : 0;
        }
        return c;
    }

    public int river(int second) {
        return secondIs(second) ? now().get(second).river : -2;
    }

    public int thrown(int second) {
        return secondIs(second) ? thrownTo(now(), second) : -2;
    }

    public int water(int second) {
        return secondIs(second) ? waterOf(now().subList(0, second + 1)) : -2;
    }

    public int spilt(int second) {
        if (!secondIs(second)) {
            return -2;
        }
        int sum = 0;
        for (End e : now().subList(0, second + 1)) {
            for (int x : e.lost) {
                sum += x;
            }
        }
        return sum;
    }

    public int fire(int second) {
        return secondIs(second) ? fires(now(), brigade.heat).get(second) : -2;
    }

    public int out() {
        return brigade == null ? -2 : outOf(now(), brigade.heat);
    }

    public int worst() {
        return brigade == null ? -2 : Collections.max(fires(now(), brigade.heat));
    }

    public int when(int k) {
        if (k < 0 || brigade == null) {
            return -2;
        }
        List<Integer> times = new ArrayList<>();
        List<End> ends = now();
        for (int s = 0; s < ends.size(); s++) {
            if (ends.get(s).threw) {
                times.add(s);
            }
        }
        return k < times.size() ? times.get(k) : NONE;
    }

    public int gap() {
        if (brigade == null) {
            return -2;
        }
        StringBuilder sb = new StringBuilder();
        for (End e : now()) {
            sb.append(e.threw ? '|' : '.');
        }
        int most = 0;
        for (String s : sb.toString().split("\\|")) {
            most = Math.max(most, s.length());
        }
        return most;
    }

    public int ready(int second) {
        return secondIs(second) ? bits(now().get(second).ready) : -2;
    }

    public int full() {
        if (brigade == null) {
            return -2;
        }
        int most = 0;
        for (int s = 0; s < brigade.seconds; s++) {
            most = Math.max(most, Integer.bitCount(busy(s)));
        }
        return most;
    }

    public int crowded() {
        if (brigade == null) {
            return -2;
        }
        int most = full();
        for (int s = 0;; s++) {
            if (Integer.bitCount(busy(s)) == most) {
                return s;
            }
        }
    }

    public int road(int second) {
        return secondIs(second) ? now().get(second).road : -2;
    }

    public int left(int second) {
        if (!secondIs(second)) {
            return -2;
        }
        int sum = 0;
        for (Integer w : now().get(second).water) {
            sum += w == null ? 0 : w;
        }
        return sum;
    }

    public int starts(int hand) {
        if (!handIs(hand)) {
            return -2;
        }
        List<End> ends = now();
        for (int s = 0; s < ends.size(); s++) {
            if (ends.get(s).water[hand] != null) {
                return s;
            }
        }
        return NONE;
    }

    public int passes(int hand) {
        if (!handIs(hand)) {
            return -2;
        }
        int c = 0;
        for (End e : now()) {
            c += e.passed[hand] ? 1 : 0;
        }
        return c;
    }

    public int loses(int hand) {
        if (!handIs(hand)) {
            return -2;
        }
        int c = 0;
        for (End e : now()) {
            c += e.lost[hand];
        }
        return c;
    }

    private int firstMost(int[] values) {
        int who = NONE;
        for (int h = values.length - 1; h >= 0; h--) {
            if (values[h] > 0 && (who == NONE || values[h] >= values[who])) {
                who = h;
            }
        }
        return who;
    }

    public int lazy() {
        return brigade == null ? -2 : firstMost(told().stream().mapToInt(this::idle).toArray());
    }

    public int queue() {
        return brigade == null ? -2 : firstMost(told().stream().mapToInt(this::stays).toArray());
    }

    public int kept() {
        if (brigade == null) {
            return -2;
        }
        int bits = 0;
        for (int p = 0; p < brigade.pairs.size(); p++) {
            bits += keeps(p) << p;
        }
        return bits;
    }

    public int until(int n) {
        if (brigade == null || n < 0) {
            return -2;
        }
        for (int s = 0; s < brigade.seconds; s++) {
            if (water(s) >= n) {
                return s;
            }
        }
        return NONE;
    }

    // ---- promises 36 to 45, 50 ----

    private List<End> byBuckets(int n) {
        return run(brigade, told(), paces(), n, brigade.size, brigade.seconds, 0, true);
    }

    public int with(int n) {
        return brigade == null || n < 1 || n > 8 ? -2 : outOf(byBuckets(n), brigade.heat);
    }

    public int ease(int hand) {
        if (!handIs(hand)) {
            return -2;
        }
        int now = waterOf(now());
        int most = brigade.pace(hand);
        for (int p = brigade.pace(hand); p <= 6; p++) {
            if (waterOf(byPace(hand, p)) >= now) {
                most = p;
            }
        }
        return most;
    }

    public int without(int hand) {
        return handIs(hand) ? brings((1 << brigade.hands.size()) - 1 - (1 << hand)) : -2;
    }

    private int[] circle() {
        List<End> ends = run(brigade, told(), paces(), brigade.buckets, brigade.size, 400, 0, false);
        for (int m = 1; m < 400; m++) {
            for (int k = 0; k < m; k++) {
                if (ends.get(k).state.equals(ends.get(m).state)) {
                    int thrown = thrownTo(ends, m) - thrownTo(ends, k);
                    return new int[] {k, m - k, thrown};
                }
            }
        }
        throw new IllegalStateException("no round");
    }

    public int settles() {
        return brigade == null ? -2 : brigade.hands.isEmpty() ? NONE : circle()[0];
    }

    public int round() {
        return brigade == null ? -2 : brigade.hands.isEmpty() ? NONE : circle()[1];
    }

    public int rate(int what) {
        if (brigade == null || what < 0 || what > 1) {
            return -2;
        }
        return brigade.hands.isEmpty() ? NONE
                : (int) lowest(BigInteger.valueOf(circle()[2]), BigInteger.valueOf(circle()[1]), what);
    }

    private static long lowest(BigInteger above, BigInteger below, int what) {
        BigInteger g = above.gcd(below);
        return (what == 0 ? above : below).divide(g).longValueExact();
    }

    public int slow() {
        if (brigade == null) {
            return -2;
        }
        int most = waterOf(now());
        int who = NONE;
        for (int h : told()) {
            int w = waterOf(byPace(h, 1));
            if (w > most) {
                most = w;
                who = h;
            }
        }
        return who;
    }

    public int enough() {
        if (brigade == null) {
            return -2;
        }
        int n = 1;
        while (waterOf(byBuckets(n)) != waterOf(byBuckets(8))) {
            n++;
        }
        return n;
    }

    public int size() {
        if (brigade == null) {
            return -2;
        }
        for (int n = 1; n <= 30; n++) {
            if (outOf(run(brigade, told(), paces(), brigade.buckets, n, brigade.seconds, 0, true),
                    brigade.heat) >= 0) {
                return n;
            }
        }
        return NONE;
    }

    public int heat() {
        if (brigade == null) {
            return -2;
        }
        List<End> ends = now();
        for (int h = 999; h >= 0; h--) {
            if (outOf(ends, h) >= 0) {
                return h;
            }
        }
        return NONE;
    }

    public int change() {
        if (brigade == null) {
            return -2;
        }
        int most = waterOf(now());
        int who = NONE;
        for (int i : told()) {
            for (int j : told()) {
                if (i < j) {
                    List<Integer> line = told();
                    Collections.swap(line, i, j);
                    int w = waterOf(byLine(line));
                    if (w > most) {
                        most = w;
                        who = 10 * i + j;
                    }
                }
            }
        }
        return who;
    }

    // ---- promises 46 to 56 ----

    private static void permute(List<Integer> row, List<Integer> rest, List<List<Integer>> into) {
        if (rest.isEmpty()) {
            into.add(new ArrayList<>(row));
        }
        for (Integer x : rest) {
            List<Integer> less = new ArrayList<>(rest);
            less.remove(x);
            row.add(x);
            permute(row, less, into);
            row.remove(row.size() - 1);
        }
    }

    private List<List<Integer>> all() {
        List<List<Integer>> into = new ArrayList<>();
        permute(new ArrayList<>(), told(), into);
        return into;
    }

    private List<List<Integer>> ordersWithout(int letGo) {
        List<List<Integer>> good = new ArrayList<>();
        for (List<Integer> row : all()) {
            boolean ok = true;
            for (int p = 0; p < brigade.pairs.size(); p++) {
                ok &= (letGo >> p & 1) == 1 || keepsPair(row, brigade.pairs.get(p));
            }
            if (ok) {
                good.add(row);
            }
        }
        return good;
    }

    public int orders() {
        return brigade == null ? -2 : ordersWithout(0).size();
    }

    private List<Integer> bestRow() {
        List<Integer> best = null;
        int most = -1;
        for (List<Integer> row : ordersWithout(0)) {
            int w = waterOf(byLine(row));
            if (w > most) {
                most = w;
                best = row;
            }
        }
        return best;
    }

    public int best() {
        if (brigade == null) {
            return -2;
        }
        List<Integer> row = bestRow();
        return row == null ? NONE : waterOf(byLine(row));
    }

    public int place(int i) {
        if (!handIs(i)) {
            return -2;
        }
        List<Integer> row = bestRow();
        return row == null ? NONE : row.get(i);
    }

    public int soonest() {
        if (brigade == null) {
            return -2;
        }
        int first = NONE;
        for (List<Integer> row : ordersWithout(0)) {
            int s = outOf(byLine(row), brigade.heat);
            if (s >= 0 && (first < 0 || s < first)) {
                first = s;
            }
        }
        return first;
    }

    public int let() {
        if (brigade == null) {
            return -2;
        }
        for (int few = 0;; few++) {
            for (int set = 0; set < 1 << brigade.pairs.size(); set++) {
                if (Integer.bitCount(set) == few && !ordersWithout(set).isEmpty()) {
                    return set;
                }
            }
        }
    }

    public int lets() {
        return brigade == null ? -2 : Integer.bitCount(let());
    }

    private int seenBad(int slot) {
        if (slot < 0 || slot > 3 || brigade == null) {
            return -2;
        }
        if (slots[slot] == null) {
            return -6;
        }
        if (slots[slot].length % 2 == 1) {
            return -2;
        }
        for (int i = 0; i < slots[slot].length; i++) {
            int most = i % 2 == 0 ? brigade.seconds - 1 : 99;
            if (slots[slot][i].signum() < 0 || slots[slot][i].compareTo(BigInteger.valueOf(most)) > 0) {
                return -2;
            }
        }
        return 0;
    }

    private List<List<Integer>> seen(int slot) {
        List<List<Integer>> good = new ArrayList<>();
        for (List<Integer> row : ordersWithout(0)) {
            boolean ok = true;
            List<End> ends = byLine(row);
            for (int i = 0; i < slots[slot].length; i += 2) {
                ok &= thrownTo(ends, slots[slot][i].intValue()) == slots[slot][i + 1].intValue();
            }
            if (ok) {
                good.add(row);
            }
        }
        return good;
    }

    public int fits(int slot) {
        return seenBad(slot) != 0 ? seenBad(slot) : seen(slot).size();
    }

    public int may(int slot, int hand) {
        if (!handIs(hand)) {
            return -2;
        }
        if (seenBad(slot) != 0) {
            return seenBad(slot);
        }
        int bits = 0;
        for (List<Integer> row : seen(slot)) {
            bits |= 1 << row.indexOf(hand);
        }
        return bits;
    }

    private int[] asked(int slot) {
        List<List<End>> runs = new ArrayList<>();
        for (List<Integer> row : seen(slot)) {
            runs.add(byLine(row));
        }
        int fewest = runs.size();
        int which = NONE;
        for (int s = 0; s < brigade.seconds; s++) {
            Map<Integer, Integer> groups = new TreeMap<>();
            for (List<End> ends : runs) {
                groups.merge(thrownTo(ends, s), 1, Integer::sum);
            }
            int worst = groups.isEmpty() ? 0 : Collections.max(groups.values());
            if (worst < fewest) {
                fewest = worst;
                which = s;
            }
        }
        return new int[] {which, fewest};
    }

    public int ask(int slot) {
        return seenBad(slot) != 0 ? seenBad(slot) : asked(slot)[0];
    }

    public int leaves(int slot) {
        return seenBad(slot) != 0 ? seenBad(slot) : asked(slot)[1];
    }

    // ---- promises 57 to 62 ----

    public int brings(int set) {
        if (brigade == null || set < 0 || set >= 1 << brigade.hands.size()) {
            return -2;
        }
        List<Integer> line = told();
        line.removeIf(h -> (set >> h & 1) == 0);
        return waterOf(byLine(line));
    }

    public int share(int hand, int what) {
        if (!handIs(hand) || what < 0 || what > 1) {
            return -2;
        }
        long sum = 0;
        long number = 0;
        int[] known = new int[1 << brigade.hands.size()];
        for (int set = 0; set < known.length; set++) {
            known[set] = brings(set);
        }
        for (List<Integer> row : all()) {
            int set = 0;
            for (int h : row) {
                if (h == hand) {
                    sum += known[set | 1 << h] - known[set];
                }
                set |= 1 << h;
            }
            number++;
        }
        return (int) lowest(BigInteger.valueOf(sum), BigInteger.valueOf(number), what);
    }

    public int gets(int hand, int other, int x, int y) {
        if (!handIs(hand) || !handIs(other) || hand == other || x < 0 || x > 1 || y < 0 || y > 1) {
            return -1000;
        }
        Map<Integer, Integer> m = paces();
        m.merge(hand, x, Integer::sum);
        m.merge(other, y, Integer::sum);
        List<End> ends = run(brigade, told(), m, brigade.buckets, brigade.size, brigade.seconds, 0, true);
        return 2 * thrownTo(ends, brigade.seconds - 1) + (x == 1 ? 5 : 0);
    }

    public int rests(int hand, int other) {
        if (!handIs(hand) || !handIs(other) || hand == other) {
            return -2;
        }
        int bits = 0;
        int[][] choices = {{0, 0, 1}, {1, 0, 2}, {0, 1, 4}, {1, 1, 8}};
        for (int[] c : choices) {
            boolean one = gets(hand, other, 1 - c[0], c[1]) > gets(hand, other, c[0], c[1]);
            boolean two = gets(other, hand, 1 - c[1], c[0]) > gets(other, hand, c[1], c[0]);
            if (!one && !two) {
                bits += c[2];
            }
        }
        return bits;
    }

    private boolean slipArgs(int second, int what) {
        return secondIs(second) && second <= 7 && what >= 0 && what <= 1;
    }

    private BigInteger weight(long slips, int seconds) {
        BigInteger w = BigInteger.ONE;
        for (int s = 0; s < seconds; s++) {
            w = w.multiply(BigInteger.valueOf((slips >> s & 1) == 1 ? brigade.odds : 10 - brigade.odds));
        }
        return w;
    }

    private List<End> slipping(int seconds, long slips) {
        return run(brigade, told(), paces(), brigade.buckets, brigade.size, seconds, slips, true);
    }

    public long chance(int second, int n, int what) {
        if (!slipArgs(second, what) || n < 0 || n > 9) {
            return -2;
        }
        BigInteger sum = BigInteger.ZERO;
        for (long slips = 0; slips < 1L << second + 1; slips++) {
            if (thrownTo(slipping(second + 1, slips), second) >= n) {
                sum = sum.add(weight(slips, second + 1));
            }
        }
        return lowest(sum, BigInteger.TEN.pow(second + 1), what);
    }

    public long mean(int second, int what) {
        if (!slipArgs(second, what)) {
            return -2;
        }
        BigInteger sum = BigInteger.ZERO;
        for (long slips = 0; slips < 1L << second + 1; slips++) {
            BigInteger w = BigInteger.valueOf(waterOf(slipping(second + 1, slips)));
            sum = sum.add(weight(slips, second + 1).multiply(w));
        }
        return lowest(sum, BigInteger.TEN.pow(second + 1), what);
    }

    // ---- promises 63 to 72 ----

    private void act(boolean rest, int hand, int second, int n) {
        Act a = new Act();
        a.rest = rest;
        a.hand = hand;
        a.second = second;
        a.n = n;
        brigade.acts.add(a);
    }

    public int rest(int hand, int second, int n) {
        if (!handIs(hand) || !secondIs(second) || n < 1 || n > 9) {
            return -2;
        }
        if (brigade.acts.size() == 30) {
            return -5;
        }
        act(true, hand, second, n);
        return thrownTo(now(), brigade.seconds - 1);
    }

    public int paces(int hand, int n) {
        if (!handIs(hand) || n < 1 || n > 6) {
            return -2;
        }
        if (brigade.acts.size() == 30) {
            return -5;
        }
        int was = brigade.pace(hand);
        act(false, hand, 0, n);
        return was;
    }

    public int undo() {
        if (brigade == null) {
            return -2;
        }
        if (brigade.acts.isEmpty()) {
            return -5;
        }
        brigade.acts.remove(brigade.acts.size() - 1);
        return brigade.acts.size();
    }

    public int anew() {
        if (brigade == null) {
            return -2;
        }
        int were = brigade.acts.size();
        brigade.acts.clear();
        return were;
    }

    private long night(long seed) {
        BigInteger x = BigInteger.valueOf(seed);
        long slips = 0;
        for (int s = 0; s < brigade.seconds; s++) {
            x = x.multiply(BigInteger.valueOf(1103515245)).add(BigInteger.valueOf(12345))
                    .mod(BigInteger.valueOf(2147483648L));
            if (x.divide(BigInteger.valueOf(65536)).mod(BigInteger.TEN).intValue() < brigade.odds) {
                slips |= 1L << s;
            }
        }
        return slips;
    }

    public int drawn(int seed, int what) {
        if (brigade == null || seed < 0 || seed > 2000000000 || what < 0 || what > 2) {
            return -2;
        }
        long slips = night(seed);
        List<End> ends = slipping(brigade.seconds, slips);
        return what == 0 ? Long.bitCount(slips)
                : what == 1 ? thrownTo(ends, brigade.seconds - 1) : outOf(ends, brigade.heat);
    }

    public int luck(int seed, int n) {
        if (brigade == null || seed < 0 || seed > 2000000000 || n < 1 || n > 20) {
            return -2;
        }
        int c = 0;
        for (int i = 0; i < n; i++) {
            c += outOf(slipping(brigade.seconds, night((long) seed + i)), brigade.heat) >= 0 ? 1 : 0;
        }
        return c;
    }

    public int fills(int n) {
        if (brigade == null || n < 1 || n > 30) {
            return -2;
        }
        if (!brigade.acts.isEmpty()) {
            return -5;
        }
        int was = brigade.size;
        brigade.size = n;
        return was;
    }

    public int count(int what) {
        Brigade b = brigade == null ? new Brigade() : brigade;
        switch (what) {
            case 0: return b.seconds;
            case 1: return b.buckets;
            case 2: return b.size;
            case 3: return b.back;
            case 4: return b.odds;
            case 5: return b.hands.size();
            case 6: return b.pairs.size();
            case 7: return b.heat;
            case 8: return b.grows;
            case 9: return b.acts.size();
            case 10: return b.lines;
            case 11: return tape.size();
            case 12: return (int) Arrays.stream(slots).filter(s -> s != null).count();
            default: return NONE;
        }
    }

    public int image(int k) {
        if (k < 0 || k > 2) {
            return -2;
        }
        images.put(k, brigade == null ? null : brigade.copy());
        return 0;
    }

    public int back(int k) {
        if (k < 0 || k > 2) {
            return -2;
        }
        if (!images.containsKey(k)) {
            return -6;
        }
        brigade = images.get(k) == null ? null : images.get(k).copy();
        return 0;
    }

    // ---- promises 73 to 75 ----

    public int row(int slot, int width, int n) {
        if (slot < 0 || slot > 3 || width < 0 || width > 3 || n > 60) {
            return -2;
        }
        if (n < 0) {
            return -3;
        }
        slots[slot] = new BigInteger[n];
        Arrays.fill(slots[slot], BigInteger.ZERO);
        widths[slot] = width;
        return 0;
    }

    public int write(int slot, int i, long v) {
        if (slot < 0 || slot > 3) {
            return -2;
        }
        if (slots[slot] == null) {
            return -6;
        }
        if (i < 0 || i >= slots[slot].length) {
            return -7;
        }
        // Kept without a sign: a number with its highest bit set is beyond all bounds either way.
        slots[slot][i] = BigInteger.valueOf(v).mod(BigInteger.TWO.pow(8 << widths[slot]));
        return 0;
    }

    public int paste(int slot, int i, int to, int k, int n) {
        if (slot < 0 || slot > 3 || to < 0 || to > 3) {
            return -2;
        }
        if (slots[slot] == null || slots[to] == null) {
            return -6;
        }
        if (widths[slot] != widths[to]) {
            return -8;
        }
        if (i < 0 || k < 0 || n < 0 || (long) i + n > slots[slot].length || (long) k + n > slots[to].length) {
            return -7;
        }
        BigInteger[] as = slots[slot].clone();
        for (int j = 0; j < n; j++) {
            slots[to][k + j] = as[i + j];
        }
        return 0;
    }
}
