import java.util.ArrayList;
import java.util.List;

/** All that can be asked of an object of at most 12 SECONDS and three HANDS, in fewer than 400 calls. */
public final class View {
    private final HandLine x;
    private final List<String> answers = new ArrayList<>();

    private View(HandLine x) {
        this.x = x;
    }

    /** The object is used up by it: IMAGES are gone back to, and its TAPE is read. */
    public static List<String> of(HandLine x) {
        View view = new View(x);
        view.told();
        view.seconds();
        view.otherwise();
        view.slots();
        view.images();
        view.tape();
        return view.answers;
    }

    /** The first answer that differs; nothing if none does. */
    public static String difference(List<String> got, List<String> want) {
        for (int i = 0; i < want.size(); i++) {
            if (!got.get(i).equals(want.get(i))) {
                return got.get(i) + " in place of " + want.get(i);
            }
        }
        return "";
    }

    private void add(String name, long answer) {
        answers.add(name + " " + answer);
    }

    private void told() {
        for (int what = 0; what <= 12; what++) {
            add("count " + what, x.count(what));
        }
        add("fault 0", x.fault(0));
        add("fault 1", x.fault(1));
        for (int hand = 0; hand < 3; hand++) {
            add("pace " + hand, x.hand(hand, 0));
            add("spills " + hand, x.hand(hand, 1));
        }
        for (int pair = 0; pair < 3; pair++) {
            add("pair's first " + pair, x.pair(pair, 0));
            add("pair's other " + pair, x.pair(pair, 1));
            add("pair's kind " + pair, x.pair(pair, 2));
        }
        add("kept", x.kept());
    }

    private void seconds() {
        for (int s = 0; s < 12; s++) {
            add("busy " + s, x.busy(s));
            add("waits " + s, x.waits(s));
            add("ready " + s, x.ready(s));
            add("river " + s, x.river(s));
            add("road " + s, x.road(s));
            add("thrown " + s, x.thrown(s));
            add("water " + s, x.water(s));
            add("spilt " + s, x.spilt(s));
            add("fire " + s, x.fire(s));
            for (int hand = 0; hand < 3; hand++) {
                add("held " + hand + " " + s, x.held(hand, s));
            }
        }
    }

    private void otherwise() {
        add("out", x.out());
        add("settles", x.settles());
        add("round", x.round());
        add("rate", x.rate(0));
        add("slow", x.slow());
        add("enough", x.enough());
        add("size", x.size());
        add("heat", x.heat());
        add("orders", x.orders());
        add("best", x.best());
        add("place 0", x.place(0));
        add("place 1", x.place(1));
        add("soonest", x.soonest());
        add("change", x.change());
        add("let", x.let());
        for (int set = 0; set < 8; set++) {
            add("brings " + set, x.brings(set));
        }
        add("chance", x.chance(7, 1, 0));
        add("mean", x.mean(7, 0));
        add("drawn 0", x.drawn(1, 0));
        add("drawn 1", x.drawn(1, 1));
        add("drawn 2", x.drawn(1, 2));
        add("luck", x.luck(1, 20));
    }

    private void slots() {
        for (int slot = 0; slot < 4; slot++) {
            add("fits " + slot, x.fits(slot));
            add("may " + slot, x.may(slot, 0));
            add("ask " + slot, x.ask(slot));
            for (int n = 0; n < 6; n++) {
                // A row put onto itself stays as it was, and tells how long it is.
                add("numbers of " + slot + ", " + n, x.paste(slot, 0, slot, 0, n));
            }
            for (int other = slot + 1; other < 4; other++) {
                add("WIDTH of " + slot + " and " + other, x.paste(slot, 0, other, 0, 0));
            }
        }
    }

    private void images() {
        for (int k = 0; k < 3; k++) {
            add("back " + k, x.back(k));
            for (int what = 0; what <= 10; what++) {
                add("count " + what + " of IMAGE " + k, x.count(what));
            }
            add("when of IMAGE " + k, x.when(0));
            add("undo of IMAGE " + k, x.undo());
            add("pace of IMAGE " + k, x.hand(1, 0));
        }
    }

    private void tape() {
        add("brigade", x.brigade());
        add("its FAULT", x.fault(0));
        add("its FAULT's place", x.fault(1));
        add("its SECONDS", x.count(0));
    }
}
